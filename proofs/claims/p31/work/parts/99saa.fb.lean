/-! ===== THE MODEL'S TRIALS LEAVE THE BED AS IT IS (wip/r/gen99sa.py) ===== -/
/-- the bed that is, what turns are told, how many blowers -/
def rB (o k : Nat) : Bool := match o with
  | 164 => Nat.beq k 12
  | 171 => true
  | 188 => Nat.beq k 0
  | 189 => Nat.beq k 0
  | 190 => Nat.beq k 0
  | 194 => Nat.beq k 0
  | 191 => Nat.ble k 3
  | 192 => Nat.ble k 3
  | 193 => Nat.ble k 3
  | _ => false
def bk (g g' : am_H) : Prop := ∀ o k, rB o k = true → rg_v g' o k = rg_v g o k
theorem bk_r {g : am_H} : bk g g := fun _ _ _ => rfl
theorem bk_t {g g' g'' : am_H} (a : bk g g') (b : bk g' g'') : bk g g'' := fun o k e => (b o k e).trans (a o k e)
theorem bk_u {g g' : am_H} {o k : Nat} {v : Value} (hb_z : rB o k = false) (a : bk g g') : bk g (am_up g' o k v) := fun o' k' e => (rg_v_other (fun q => by rw [q.1, q.2, hb_z] at e; cases e)).trans (a o' k' e)
theorem bk_i {o k : Nat} (ho : o = 191 ∨ o = 192 ∨ o = 193) (hk_z : 4 ≤ k) : rB o k = false := by
  have key : Nat.ble k 3 = false := by
    cases q : Nat.ble k 3 with
    | false => rfl
    | true => exact absurd (Nat.le_of_ble_eq_true q) (by omega)
  rcases ho with rfl | rfl | rfl
  · exact key
  · exact key
  · exact key
theorem bk_4 {c k : Int32} {q N : Nat} (c4_z : 4 ≤ c.toInt ∧ c.toInt ≤ 12) (k0_z : 0 ≤ k.toInt) (p : (q : Int) = (c + k).toInt ∧ q < N) : 4 ≤ q := by
  have e : (c + k).toInt = (c.toInt + k.toInt).bmod (2 ^ 32) := Int32.toInt_add _ _
  have hk_z := ab_32 k
  by_cases h : c.toInt + k.toInt ≤ 2147483647
  · rw [ab_bm (by omega) h] at e
    omega
  · have e2_z : (c.toInt + k.toInt).bmod (2 ^ 32) = c.toInt + k.toInt - 4294967296 := by
      rw [Int.bmod_def]
      omega
    omega
/-- what the model's rounds rest on -/
def tkm (g : am_H) : Prop := (∀ t : Nat, t < 16 → 0 ≤ (rg_v g 171 t).toInt) ∧ 0 ≤ (rg_v g 164 12).toInt ∧ (rg_v g 164 12).toInt ≤ 4
theorem tkm_b {g g' : am_H} (b : bk g g') (T : tkm g) : tkm g' := by
  refine ⟨fun t ht => ?_, ?_, ?_⟩
  · rw [b 171 t rfl]
    exact T.1 t ht
  · rw [b 164 12 rfl]
    exact T.2.1
  · rw [b 164 12 rfl]
    exact T.2.2
theorem fk_c1 {i x : Int32} (h : i.toInt < x.toInt) : (i + 1).toInt = i.toInt + 1 := by
  have a := ab_32 i
  have b := ab_32 x
  refine ab_iadd ?_ ?_ <;> rw [show (1 : Int32).toInt = 1 by decide] <;> omega

theorem fk_c2 {i : Int32} (h : i.toInt ≤ 2147483646) : (i + 1).toInt = i.toInt + 1 := by
  have a := ab_32 i
  refine ab_iadd ?_ ?_ <;> rw [show (1 : Int32).toInt = 1 by decide] <;> omega
/-- what a law's worth may change -/
def nB (o k : Nat) : Bool := match o with
  | 164 => Nat.beq k 49
  | 186 => true
  | 187 => true
  | _ => false
def nk (g g' : am_H) : Prop := ∀ o k, nB o k = false → g' o k = g o k
theorem nk_r {g : am_H} : nk g g := fun _ _ _ => rfl
theorem nk_t {g g' g'' : am_H} (a : nk g g') (b : nk g' g'') : nk g g'' := fun o k e => (b o k e).trans (a o k e)
theorem nk_u {g g' : am_H} {o k : Nat} {v : Value} (hb_z : nB o k = true) (a : nk g g') : nk g (am_up g' o k v) := fun o' k' e => (up_ne (fun q => by rw [q.1, q.2, hb_z] at e; cases e)).trans (a o' k' e)
theorem nB_rB {o k : Nat} (h : rB o k = true) : nB o k = false := by
  unfold nB
  split
  · unfold rB at h
    cases q : Nat.beq k 49 with
    | false => rfl
    | true =>
      have := Nat.eq_of_beq_eq_true q
      subst this
      exact absurd h (by decide)
  · exact absurd (show false = true from h) (by decide)
  · exact absurd (show false = true from h) (by decide)
  · rfl
theorem bk_n {g g' : am_H} (a : nk g g') : bk g g' := fun o k e => by
  unfold rg_v
  rw [a o k (nB_rB e)]
theorem fk_long {n : Nat} {M : am_M} {k : Nat} {ls : am_L} {st : List Value} {h h' : am_H} {r : Option Value} (hM : M.2.1.2.1 = some .long) (hr : rn n M k ls st h r h') : ∃ x : Int64, r = some (.long x) := by
  obtain ⟨-, -, nc, ns, m, -, hrun⟩ := hr
  have key : ∀ (m : Nat) (f : am_F) (r : am_O), am_run am_φ false m am_G0 M f = some r → ∃ x : Int64, r.1 = some (.long x) := by
    intro m
    induction m with
    | zero => intro f r h; cases h
    | succ m ih_z =>
      intro f r h
      rw [am_run_s] at h
      split at h
      · rename_i r0_z he
        cases h
        obtain ⟨cs, ls, st, ks, h, nc, ns⟩ := f
        unfold am_end at he
        split at he
        · cases he
        · rename_i heq
          cases heq
          split at he
          · split at he
            · split at he
              · rename_i x _ ty e
                rw [hM] at e
                cases e
                cases he
              · cases he
            · cases he
          · split at he
            · rw [hM] at he
              replace he : am_ret M _ ks h nc ns = some _ := he
              unfold am_ret at he
              cases hq_z : (Nat.ble nc M.2.2.1.2.2.1 && Nat.ble ns M.2.2.1.2.2.2) with
              | false => rw [hq_z] at he; cases he
              | true => rw [hq_z] at he; cases he; exact ⟨_, rfl⟩
            · cases he
          · split at he
            · rw [hM] at he
              cases he
            · cases he
          · cases he
      · split at h
        · exact ih_z _ _ h
        · cases h
  exact key m _ _ hrun
theorem fk_185 {n : Nat} {h h' : am_H} {r : Option Value} {k : Int32}  (hc_z : rn n am_m185 0 (lv_args 0 [.ref 164, .int k]) [] h r h') : ((k.toInt < (0 : Int32).toInt) ∧ r = some (.int 0) ∧ h' = h) ∨ (((0 : Int32).toInt ≤ k.toInt) ∧ ((rg_v h 164 12).toInt ≤ k.toInt) ∧ r = some (.int 0) ∧ h' = h) ∨ (((0 : Int32).toInt ≤ k.toInt) ∧ (k.toInt < (rg_v h 164 12).toInt) ∧ r = some (.int 1) ∧ h' = h) := by
  have g0_z : am_get (lv_args 0 [.ref 164, .int k]) 0 = some (.ref 164) := rfl
  have g1_z : am_get (lv_args 0 [.ref 164, .int k]) 1 = some (.int k) := rfl
  replace hc_z := rn_iload_n (am_cur_of (i := (0, 1, .iload_n 1, (0, 0, 0), 0)) (by decide +kernel)) g1_z hc_z
  replace hc_z := rn_if (am_cur_of (i := (1, 3, .ifCond .lt 15, (8, 0, 0), 0)) (by decide +kernel)) hc_z
  rcases hc_z with ⟨b1_z, hc_z⟩ | ⟨b1_z, hc_z⟩
  · replace b1_z : k.toInt < (0 : Int32).toInt := b1_z
    replace hc_z := rn_iconst (w := 0) (am_cur_of (i := (16, 1, .iconst 0, (0, 0, 0), 0)) (by decide +kernel)) (by decide) hc_z
    replace hc_z := rn_iret (am_cur_of (i := (17, 1, .ireturn, (0, 0, 0), 0)) (by decide +kernel)) hc_z
    obtain ⟨e2_z, e3_z⟩ := hc_z
    exact Or.inl ⟨b1_z, e2_z, e3_z⟩
  · replace b1_z : (0 : Int32).toInt ≤ k.toInt := b1_z
    replace hc_z := rn_iload_n (am_cur_of (i := (4, 1, .iload_n 1, (0, 0, 0), 0)) (by decide +kernel)) g1_z hc_z
    replace hc_z := rn_aload_n (am_cur_of (i := (5, 1, .aload_n 0, (0, 0, 0), 0)) (by decide +kernel)) g0_z hc_z
    replace hc_z := rn_getI (v := rg_v h 164 12) (am_cur_of (i := (6, 3, .getfield 219, (12, 12, 1396), 0)) (by decide +kernel)) (by decide +kernel) rfl hc_z
    replace hc_z := rn_cmp (am_cur_of (i := (9, 3, .if_icmp .ge 7, (8, 0, 0), 0)) (by decide +kernel)) hc_z
    rcases hc_z with ⟨b4_z, hc_z⟩ | ⟨b4_z, hc_z⟩
    · replace b4_z : (rg_v h 164 12).toInt ≤ k.toInt := b4_z
      replace hc_z := rn_iconst (w := 0) (am_cur_of (i := (16, 1, .iconst 0, (0, 0, 0), 0)) (by decide +kernel)) (by decide) hc_z
      replace hc_z := rn_iret (am_cur_of (i := (17, 1, .ireturn, (0, 0, 0), 0)) (by decide +kernel)) hc_z
      obtain ⟨e5_z, e6_z⟩ := hc_z
      exact Or.inr (Or.inl ⟨b1_z, b4_z, e5_z, e6_z⟩)
    · replace b4_z : k.toInt < (rg_v h 164 12).toInt := b4_z
      replace hc_z := rn_iconst (w := 1) (am_cur_of (i := (12, 1, .iconst 1, (0, 0, 0), 0)) (by decide +kernel)) (by decide) hc_z
      replace hc_z := rn_goto (am_cur_of (i := (13, 3, .goto 4, (9, 0, 0), 0)) (by decide +kernel)) hc_z
      replace hc_z := rn_iret (am_cur_of (i := (17, 1, .ireturn, (0, 0, 0), 0)) (by decide +kernel)) hc_z
      obtain ⟨e7_z, e8_z⟩ := hc_z
      exact Or.inr (Or.inr (⟨b1_z, b4_z, e7_z, e8_z⟩))
theorem nq_189 {nst : Nat} {r : Option Value} {g g' : am_H} {b : Int32} {o : Int32} {l : Int32} {x : Int32}  (hm_z : rn nst am_m189 0 (lv_args 0 [.ref 164, .int b, .int o, .int l, .int x]) [] g r g') : nk g g' := by
  have g0_z : am_get (lv_args 0 [.ref 164, .int b, .int o, .int l, .int x]) 0 = some (.ref 164) := rfl
  have g1_z : am_get (lv_args 0 [.ref 164, .int b, .int o, .int l, .int x]) 1 = some (.int b) := rfl
  have g2_z : am_get (lv_args 0 [.ref 164, .int b, .int o, .int l, .int x]) 2 = some (.int o) := rfl
  have g3_z : am_get (lv_args 0 [.ref 164, .int b, .int o, .int l, .int x]) 3 = some (.int l) := rfl
  have g4_z : am_get (lv_args 0 [.ref 164, .int b, .int o, .int l, .int x]) 4 = some (.int x) := rfl
  replace hm_z := rn_aload_n (am_cur_of (i := (0, 1, .aload_n 0, (0, 0, 0), 0)) (by decide +kernel)) g0_z hm_z
  replace hm_z := rn_getR (x := 186) (am_cur_of (i := (1, 3, .getfield 78, (12, 47, 1431), 0)) (by decide +kernel)) (by decide +kernel) hm_z
  replace hm_z := rn_iconst (w := 0) (am_cur_of (i := (4, 1, .iconst 0, (0, 0, 0), 0)) (by decide +kernel)) (by decide) hm_z
  replace hm_z := rn_aload_n (am_cur_of (i := (5, 1, .aload_n 0, (0, 0, 0), 0)) (by decide +kernel)) g0_z hm_z
  replace hm_z := rn_getR (x := 188) (am_cur_of (i := (6, 3, .getfield 85, (12, 50, 1434), 0)) (by decide +kernel)) (by decide +kernel) hm_z
  replace hm_z := rn_iload_n (am_cur_of (i := (9, 1, .iload_n 1, (0, 0, 0), 0)) (by decide +kernel)) g1_z hm_z
  replace hm_z := rn_iaload (N := 4) (q := b.toNatClampNeg) (v := rg_v g 188 b.toNatClampNeg) (am_cur_of (i := (10, 1, .iaload, (0, 0, 0), 0)) (by decide +kernel)) (by decide +kernel) rfl rfl hm_z
  obtain ⟨p9_z, hm_z⟩ := hm_z
  replace hm_z := rn_i2l (w := (rg_v g 188 b.toNatClampNeg).toInt64) (am_cur_of (i := (11, 1, .i2l, (0, 0, 0), 0)) (by decide +kernel)) rfl hm_z
  replace hm_z := rn_lastore (N := 6) (q := 0) (am_cur_of (i := (12, 1, .lastore, (0, 0, 0), 0)) (by decide +kernel)) (by decide +kernel) rfl hm_z
  obtain ⟨p10_z, hm_z⟩ := hm_z
  replace hm_z := rn_aload_n (am_cur_of (i := (13, 1, .aload_n 0, (0, 0, 0), 0)) (by decide +kernel)) g0_z hm_z
  replace hm_z := rn_getR (x := 186) (am_cur_of (i := (14, 3, .getfield 78, (12, 47, 1431), 0)) (by decide +kernel)) (by decide +kernel) hm_z
  replace hm_z := rn_iconst (w := 1) (am_cur_of (i := (17, 1, .iconst 1, (0, 0, 0), 0)) (by decide +kernel)) (by decide) hm_z
  replace hm_z := rn_aload_n (am_cur_of (i := (18, 1, .aload_n 0, (0, 0, 0), 0)) (by decide +kernel)) g0_z hm_z
  replace hm_z := rn_getR (x := 168) (am_cur_of (i := (19, 3, .getfield 24, (12, 23, 1407), 0)) (by decide +kernel)) (by decide +kernel) hm_z
  replace hm_z := rn_iconst (w := 0) (am_cur_of (i := (22, 1, .iconst 0, (0, 0, 0), 0)) (by decide +kernel)) (by decide) hm_z
  replace hm_z := rn_iaload (N := 12) (q := 0) (v := rg_v g 168 0) (am_cur_of (i := (23, 1, .iaload, (0, 0, 0), 0)) (by decide +kernel)) (by decide +kernel) rfl (show rg_v (am_up g 186 0 (.long ((rg_v g 188 b.toNatClampNeg).toInt64))) 168 0 = rg_v g 168 0 from rfl) hm_z
  obtain ⟨p11_z, hm_z⟩ := hm_z
  replace hm_z := rn_aload_n (am_cur_of (i := (24, 1, .aload_n 0, (0, 0, 0), 0)) (by decide +kernel)) g0_z hm_z
  replace hm_z := rn_getR (x := 188) (am_cur_of (i := (25, 3, .getfield 85, (12, 50, 1434), 0)) (by decide +kernel)) (by decide +kernel) hm_z
  replace hm_z := rn_iload_n (am_cur_of (i := (28, 1, .iload_n 1, (0, 0, 0), 0)) (by decide +kernel)) g1_z hm_z
  replace hm_z := rn_iaload (N := 4) (q := b.toNatClampNeg) (v := rg_v g 188 b.toNatClampNeg) (am_cur_of (i := (29, 1, .iaload, (0, 0, 0), 0)) (by decide +kernel)) (by decide +kernel) rfl (show rg_v (am_up g 186 0 (.long ((rg_v g 188 b.toNatClampNeg).toInt64))) 188 b.toNatClampNeg = rg_v g 188 b.toNatClampNeg from rfl) hm_z
  obtain ⟨p12_z, hm_z⟩ := hm_z
  replace hm_z := rn_isub (w := (rg_v g 168 0) - (rg_v g 188 b.toNatClampNeg)) (am_cur_of (i := (30, 1, .isub, (0, 0, 0), 0)) (by decide +kernel)) rfl hm_z
  replace hm_z := rn_i2l (w := ((rg_v g 168 0) - (rg_v g 188 b.toNatClampNeg)).toInt64) (am_cur_of (i := (31, 1, .i2l, (0, 0, 0), 0)) (by decide +kernel)) rfl hm_z
  replace hm_z := rn_lastore (N := 6) (q := 1) (am_cur_of (i := (32, 1, .lastore, (0, 0, 0), 0)) (by decide +kernel)) (by decide +kernel) rfl hm_z
  obtain ⟨p13_z, hm_z⟩ := hm_z
  replace hm_z := rn_aload_n (am_cur_of (i := (33, 1, .aload_n 0, (0, 0, 0), 0)) (by decide +kernel)) g0_z hm_z
  replace hm_z := rn_getR (x := 186) (am_cur_of (i := (34, 3, .getfield 78, (12, 47, 1431), 0)) (by decide +kernel)) (by decide +kernel) hm_z
  replace hm_z := rn_iconst (w := 2) (am_cur_of (i := (37, 1, .iconst 2, (0, 0, 0), 0)) (by decide +kernel)) (by decide) hm_z
  replace hm_z := rn_iload_n (am_cur_of (i := (38, 1, .iload_n 2, (0, 0, 0), 0)) (by decide +kernel)) g2_z hm_z
  replace hm_z := rn_i2l (w := o.toInt64) (am_cur_of (i := (39, 1, .i2l, (0, 0, 0), 0)) (by decide +kernel)) rfl hm_z
  replace hm_z := rn_lastore (N := 6) (q := 2) (am_cur_of (i := (40, 1, .lastore, (0, 0, 0), 0)) (by decide +kernel)) (by decide +kernel) rfl hm_z
  obtain ⟨p14_z, hm_z⟩ := hm_z
  replace hm_z := rn_aload_n (am_cur_of (i := (41, 1, .aload_n 0, (0, 0, 0), 0)) (by decide +kernel)) g0_z hm_z
  replace hm_z := rn_getR (x := 186) (am_cur_of (i := (42, 3, .getfield 78, (12, 47, 1431), 0)) (by decide +kernel)) (by decide +kernel) hm_z
  replace hm_z := rn_iconst (w := 3) (am_cur_of (i := (45, 1, .iconst 3, (0, 0, 0), 0)) (by decide +kernel)) (by decide) hm_z
  replace hm_z := rn_iload_n (am_cur_of (i := (46, 1, .iload_n 3, (0, 0, 0), 0)) (by decide +kernel)) g3_z hm_z
  replace hm_z := rn_i2l (w := l.toInt64) (am_cur_of (i := (47, 1, .i2l, (0, 0, 0), 0)) (by decide +kernel)) rfl hm_z
  replace hm_z := rn_lastore (N := 6) (q := 3) (am_cur_of (i := (48, 1, .lastore, (0, 0, 0), 0)) (by decide +kernel)) (by decide +kernel) rfl hm_z
  obtain ⟨p15_z, hm_z⟩ := hm_z
  replace hm_z := rn_aload_n (am_cur_of (i := (49, 1, .aload_n 0, (0, 0, 0), 0)) (by decide +kernel)) g0_z hm_z
  replace hm_z := rn_getR (x := 186) (am_cur_of (i := (50, 3, .getfield 78, (12, 47, 1431), 0)) (by decide +kernel)) (by decide +kernel) hm_z
  replace hm_z := rn_iconst (w := 4) (am_cur_of (i := (53, 1, .iconst 4, (0, 0, 0), 0)) (by decide +kernel)) (by decide) hm_z
  replace hm_z := rn_aload_n (am_cur_of (i := (54, 1, .aload_n 0, (0, 0, 0), 0)) (by decide +kernel)) g0_z hm_z
  replace hm_z := rn_getR (x := 189) (am_cur_of (i := (55, 3, .getfield 88, (12, 51, 1435), 0)) (by decide +kernel)) (by decide +kernel) hm_z
  replace hm_z := rn_iload_n (am_cur_of (i := (58, 1, .iload_n 1, (0, 0, 0), 0)) (by decide +kernel)) g1_z hm_z
  replace hm_z := rn_iaload (N := 4) (q := b.toNatClampNeg) (v := rg_v g 189 b.toNatClampNeg) (am_cur_of (i := (59, 1, .iaload, (0, 0, 0), 0)) (by decide +kernel)) (by decide +kernel) rfl (show rg_v (am_up (am_up (am_up (am_up g 186 0 (.long ((rg_v g 188 b.toNatClampNeg).toInt64))) 186 1 (.long (((rg_v g 168 0) - (rg_v g 188 b.toNatClampNeg)).toInt64))) 186 2 (.long o.toInt64)) 186 3 (.long l.toInt64)) 189 b.toNatClampNeg = rg_v g 189 b.toNatClampNeg from rfl) hm_z
  obtain ⟨p16_z, hm_z⟩ := hm_z
  replace hm_z := rn_i2l (w := (rg_v g 189 b.toNatClampNeg).toInt64) (am_cur_of (i := (60, 1, .i2l, (0, 0, 0), 0)) (by decide +kernel)) rfl hm_z
  replace hm_z := rn_lastore (N := 6) (q := 4) (am_cur_of (i := (61, 1, .lastore, (0, 0, 0), 0)) (by decide +kernel)) (by decide +kernel) rfl hm_z
  obtain ⟨p17_z, hm_z⟩ := hm_z
  replace hm_z := rn_aload_n (am_cur_of (i := (62, 1, .aload_n 0, (0, 0, 0), 0)) (by decide +kernel)) g0_z hm_z
  replace hm_z := rn_getR (x := 186) (am_cur_of (i := (63, 3, .getfield 78, (12, 47, 1431), 0)) (by decide +kernel)) (by decide +kernel) hm_z
  replace hm_z := rn_iconst (w := 5) (am_cur_of (i := (66, 1, .iconst 5, (0, 0, 0), 0)) (by decide +kernel)) (by decide) hm_z
  replace hm_z := rn_iload (am_cur_of (i := (67, 2, .iload 4, (0, 0, 0), 0)) (by decide +kernel)) g4_z hm_z
  replace hm_z := rn_i2l (w := x.toInt64) (am_cur_of (i := (69, 1, .i2l, (0, 0, 0), 0)) (by decide +kernel)) rfl hm_z
  replace hm_z := rn_lastore (N := 6) (q := 5) (am_cur_of (i := (70, 1, .lastore, (0, 0, 0), 0)) (by decide +kernel)) (by decide +kernel) rfl hm_z
  obtain ⟨p18_z, hm_z⟩ := hm_z
  replace hm_z := rn_vret (am_cur_of (i := (71, 1, .return_, (0, 0, 0), 0)) (by decide +kernel)) hm_z
  obtain ⟨e19_z, e20_z⟩ := hm_z
  rw [e20_z]
  exact (nk_u rfl (nk_u rfl (nk_u rfl (nk_u rfl (nk_u rfl (nk_u rfl nk_r))))))
theorem nq_193 {nst : Nat} {r : Option Value} {g g' : am_H} {x : Int64}  (hm_z : rn nst am_m193 0 (lv_args 0 [.ref 164, .long x]) [] g r g') : nk g g' := by
  have z0_z : (0 : Int32).toInt = 0 := by decide
  have g0_z : am_get (lv_args 0 [.ref 164, .long x]) 0 = some (.ref 164) := rfl
  have g1_z : am_get (lv_args 0 [.ref 164, .long x]) 1 = some (.long x) := rfl
  replace hm_z := rn_aload_n (am_cur_of (i := (0, 1, .aload_n 0, (0, 0, 0), 0)) (by decide +kernel)) g0_z hm_z
  replace hm_z := rn_aload_n (am_cur_of (i := (1, 1, .aload_n 0, (0, 0, 0), 0)) (by decide +kernel)) g0_z hm_z
  replace hm_z := rn_getI (v := rg_v g 164 49) (am_cur_of (i := (2, 3, .getfield 327, (12, 49, 1433), 0)) (by decide +kernel)) (by decide +kernel) rfl hm_z
  replace hm_z := rn_if (am_cur_of (i := (5, 3, .ifCond .ne 19, (12, 0, 0), 0)) (by decide +kernel)) hm_z
  rcases hm_z with ⟨b21_z, hm_z⟩ | ⟨b21_z, hm_z⟩
  · replace b21_z : ¬ (rg_v g 164 49) = (0 : Int32) ∧ ¬ (rg_v g 164 49).toInt = (0 : Int32).toInt := b21_z
    replace hm_z := rn_iconst (w := 1) (am_cur_of (i := (24, 1, .iconst 1, (0, 0, 0), 0)) (by decide +kernel)) (by decide) hm_z
    replace hm_z := rn_goto (am_cur_of (i := (25, 3, .goto 4, (15, 0, 0), 0)) (by decide +kernel)) hm_z
    replace hm_z := rn_put (am_cur_of (i := (29, 3, .putfield 327, (12, 49, 1433), 0)) (by decide +kernel)) (by decide +kernel) hm_z
    replace hm_z := rn_aload_n (am_cur_of (i := (32, 1, .aload_n 0, (0, 0, 0), 0)) (by decide +kernel)) g0_z hm_z
    replace hm_z := rn_getI (v := 1) (am_cur_of (i := (33, 3, .getfield 327, (12, 49, 1433), 0)) (by decide +kernel)) (by decide +kernel) (show rg_v (am_up g 164 49 (.int 1)) 164 49 = 1 from rfl) hm_z
    replace hm_z := rn_ifF (am_cur_of (i := (36, 3, .ifCond .eq 7, (21, 0, 0), 0)) (by decide +kernel)) (by decide) hm_z
    replace hm_z := rn_lconst (w := 0) (am_cur_of (i := (39, 1, .lconst 0, (0, 0, 0), 0)) (by decide +kernel)) rfl hm_z
    replace hm_z := rn_goto (am_cur_of (i := (40, 3, .goto 4, (22, 0, 0), 0)) (by decide +kernel)) hm_z
    replace hm_z := rn_lret (am_cur_of (i := (44, 1, .lreturn, (0, 0, 0), 0)) (by decide +kernel)) hm_z
    obtain ⟨e22_z, e23_z⟩ := hm_z
    rw [e23_z]
    exact (nk_u (by decide) nk_r)
  · replace b21_z : (rg_v g 164 49) = (0 : Int32) ∧ (rg_v g 164 49).toInt = (0 : Int32).toInt := b21_z
    replace hm_z := rn_lload_n (am_cur_of (i := (8, 1, .lload_n 1, (0, 0, 0), 0)) (by decide +kernel)) g1_z hm_z
    replace hm_z := rn_ldc2 (w := 1000000000000) (am_cur_of (i := (9, 3, .ldc2_w 330, (0, 0, 1807), 1000000000000)) (by decide +kernel)) (by decide) hm_z
    replace hm_z := rn_lcmp (w := lg_cmp x 1000000000000) (am_cur_of (i := (12, 1, .lcmp, (0, 0, 0), 0)) (by decide +kernel)) rfl hm_z
    replace hm_z := rn_if (am_cur_of (i := (13, 3, .ifCond .gt 11, (12, 0, 0), 0)) (by decide +kernel)) hm_z
    rcases hm_z with ⟨b24_z, hm_z⟩ | ⟨b24_z, hm_z⟩
    · replace b24_z : (0 : Int32).toInt < (lg_cmp x 1000000000000).toInt := b24_z
      replace hm_z := rn_iconst (w := 1) (am_cur_of (i := (24, 1, .iconst 1, (0, 0, 0), 0)) (by decide +kernel)) (by decide) hm_z
      replace hm_z := rn_goto (am_cur_of (i := (25, 3, .goto 4, (15, 0, 0), 0)) (by decide +kernel)) hm_z
      replace hm_z := rn_put (am_cur_of (i := (29, 3, .putfield 327, (12, 49, 1433), 0)) (by decide +kernel)) (by decide +kernel) hm_z
      replace hm_z := rn_aload_n (am_cur_of (i := (32, 1, .aload_n 0, (0, 0, 0), 0)) (by decide +kernel)) g0_z hm_z
      replace hm_z := rn_getI (v := 1) (am_cur_of (i := (33, 3, .getfield 327, (12, 49, 1433), 0)) (by decide +kernel)) (by decide +kernel) (show rg_v (am_up g 164 49 (.int 1)) 164 49 = 1 from rfl) hm_z
      replace hm_z := rn_ifF (am_cur_of (i := (36, 3, .ifCond .eq 7, (21, 0, 0), 0)) (by decide +kernel)) (by decide) hm_z
      replace hm_z := rn_lconst (w := 0) (am_cur_of (i := (39, 1, .lconst 0, (0, 0, 0), 0)) (by decide +kernel)) rfl hm_z
      replace hm_z := rn_goto (am_cur_of (i := (40, 3, .goto 4, (22, 0, 0), 0)) (by decide +kernel)) hm_z
      replace hm_z := rn_lret (am_cur_of (i := (44, 1, .lreturn, (0, 0, 0), 0)) (by decide +kernel)) hm_z
      obtain ⟨e25_z, e26_z⟩ := hm_z
      rw [e26_z]
      exact (nk_u (by decide) nk_r)
    · replace b24_z : (lg_cmp x 1000000000000).toInt ≤ (0 : Int32).toInt := b24_z
      replace hm_z := rn_lload_n (am_cur_of (i := (16, 1, .lload_n 1, (0, 0, 0), 0)) (by decide +kernel)) g1_z hm_z
      replace hm_z := rn_ldc2 (w := (-1000000000000)) (am_cur_of (i := (17, 3, .ldc2_w 332, (0, 0, 1808), (-1000000000000))) (by decide +kernel)) (by decide) hm_z
      replace hm_z := rn_lcmp (w := lg_cmp x (-1000000000000)) (am_cur_of (i := (20, 1, .lcmp, (0, 0, 0), 0)) (by decide +kernel)) rfl hm_z
      replace hm_z := rn_if (am_cur_of (i := (21, 3, .ifCond .ge 7, (14, 0, 0), 0)) (by decide +kernel)) hm_z
      rcases hm_z with ⟨b27_z, hm_z⟩ | ⟨b27_z, hm_z⟩
      · replace b27_z : (0 : Int32).toInt ≤ (lg_cmp x (-1000000000000)).toInt := b27_z
        replace hm_z := rn_iconst (w := 0) (am_cur_of (i := (28, 1, .iconst 0, (0, 0, 0), 0)) (by decide +kernel)) (by decide) hm_z
        replace hm_z := rn_put (am_cur_of (i := (29, 3, .putfield 327, (12, 49, 1433), 0)) (by decide +kernel)) (by decide +kernel) hm_z
        replace hm_z := rn_aload_n (am_cur_of (i := (32, 1, .aload_n 0, (0, 0, 0), 0)) (by decide +kernel)) g0_z hm_z
        replace hm_z := rn_getI (v := 0) (am_cur_of (i := (33, 3, .getfield 327, (12, 49, 1433), 0)) (by decide +kernel)) (by decide +kernel) (show rg_v (am_up g 164 49 (.int 0)) 164 49 = 0 from rfl) hm_z
        replace hm_z := rn_ifT (am_cur_of (i := (36, 3, .ifCond .eq 7, (21, 0, 0), 0)) (by decide +kernel)) (by decide) hm_z
        replace hm_z := rn_lload_n (am_cur_of (i := (43, 1, .lload_n 1, (0, 0, 0), 0)) (by decide +kernel)) g1_z hm_z
        replace hm_z := rn_lret (am_cur_of (i := (44, 1, .lreturn, (0, 0, 0), 0)) (by decide +kernel)) hm_z
        obtain ⟨e28_z, e29_z⟩ := hm_z
        rw [e29_z]
        exact (nk_u (by decide) nk_r)
      · replace b27_z : (lg_cmp x (-1000000000000)).toInt < (0 : Int32).toInt := b27_z
        replace hm_z := rn_iconst (w := 1) (am_cur_of (i := (24, 1, .iconst 1, (0, 0, 0), 0)) (by decide +kernel)) (by decide) hm_z
        replace hm_z := rn_goto (am_cur_of (i := (25, 3, .goto 4, (15, 0, 0), 0)) (by decide +kernel)) hm_z
        replace hm_z := rn_put (am_cur_of (i := (29, 3, .putfield 327, (12, 49, 1433), 0)) (by decide +kernel)) (by decide +kernel) hm_z
        replace hm_z := rn_aload_n (am_cur_of (i := (32, 1, .aload_n 0, (0, 0, 0), 0)) (by decide +kernel)) g0_z hm_z
        replace hm_z := rn_getI (v := 1) (am_cur_of (i := (33, 3, .getfield 327, (12, 49, 1433), 0)) (by decide +kernel)) (by decide +kernel) (show rg_v (am_up g 164 49 (.int 1)) 164 49 = 1 from rfl) hm_z
        replace hm_z := rn_ifF (am_cur_of (i := (36, 3, .ifCond .eq 7, (21, 0, 0), 0)) (by decide +kernel)) (by decide) hm_z
        replace hm_z := rn_lconst (w := 0) (am_cur_of (i := (39, 1, .lconst 0, (0, 0, 0), 0)) (by decide +kernel)) rfl hm_z
        replace hm_z := rn_goto (am_cur_of (i := (40, 3, .goto 4, (22, 0, 0), 0)) (by decide +kernel)) hm_z
        replace hm_z := rn_lret (am_cur_of (i := (44, 1, .lreturn, (0, 0, 0), 0)) (by decide +kernel)) hm_z
        obtain ⟨e30_z, e31_z⟩ := hm_z
        rw [e31_z]
        exact (nk_u (by decide) nk_r)
theorem nq_194_L {r : Option Value} {g' : am_H} {x : Int64} {y : Int64}  : ∀ f : Nat, (∀ (ls : am_L) (g : am_H), am_get ls 0 = some (.ref 164) → am_get ls 1 = some (.long x) → am_get ls 3 = some (.long y) → rn f am_m194 30 ls [] g r g' → nk g g') := by
  intro f
  induction f with
  | zero =>
    exact (fun _ _ _ _ _ hm_z => absurd hm_z rn_0)
  | succ f ih_z =>
    have I30 := ih_z
    have H30 : ∀ (ls : am_L) (g : am_H), am_get ls 0 = some (.ref 164) → am_get ls 1 = some (.long x) → am_get ls 3 = some (.long y) → rn (f + 1) am_m194 30 ls [] g r g' → nk g g' := by
      intro ls g g0_z g1_z g3_z hm_z
      have z0_z : (0 : Int32).toInt = 0 := by decide
      replace hm_z := rn_iconst (w := 0) (am_cur_of (i := (48, 1, .iconst 0, (0, 0, 0), 0)) (by decide +kernel)) (by decide) hm_z
      replace hm_z := rn_istore (am_cur_of (i := (49, 2, .istore 5, (0, 0, 0), 0)) (by decide +kernel)) hm_z
      obtain ⟨_, s32_z, s33_z, g5_z, hm_z⟩ := hm_z
      replace g0_z := s32_z 0 _ (by decide) rfl g0_z
      replace g1_z := s33_z 1 _ (by decide) (by decide) g1_z
      replace g3_z := s33_z 3 _ (by decide) (by decide) g3_z
      clear s32_z s33_z
      replace hm_z := rn_aload_n (am_cur_of (i := (51, 1, .aload_n 0, (0, 0, 0), 0)) (by decide +kernel)) g0_z hm_z
      replace hm_z := rn_aload_n (am_cur_of (i := (52, 1, .aload_n 0, (0, 0, 0), 0)) (by decide +kernel)) g0_z hm_z
      replace hm_z := rn_getI (v := rg_v g 164 49) (am_cur_of (i := (53, 3, .getfield 327, (12, 49, 1433), 0)) (by decide +kernel)) (by decide +kernel) rfl hm_z
      replace hm_z := rn_if (am_cur_of (i := (56, 3, .ifCond .ne 8, (38, 0, 0), 0)) (by decide +kernel)) hm_z
      rcases hm_z with ⟨b34_z, hm_z⟩ | ⟨b34_z, hm_z⟩
      · replace b34_z : ¬ (rg_v g 164 49) = (0 : Int32) ∧ ¬ (rg_v g 164 49).toInt = (0 : Int32).toInt := b34_z
        replace hm_z := rn_iconst (w := 1) (am_cur_of (i := (64, 1, .iconst 1, (0, 0, 0), 0)) (by decide +kernel)) (by decide) hm_z
        replace hm_z := rn_goto (am_cur_of (i := (65, 3, .goto 4, (41, 0, 0), 0)) (by decide +kernel)) hm_z
        replace hm_z := rn_put (am_cur_of (i := (69, 3, .putfield 327, (12, 49, 1433), 0)) (by decide +kernel)) (by decide +kernel) hm_z
        replace hm_z := rn_aload_n (am_cur_of (i := (72, 1, .aload_n 0, (0, 0, 0), 0)) (by decide +kernel)) g0_z hm_z
        replace hm_z := rn_getI (v := 1) (am_cur_of (i := (73, 3, .getfield 327, (12, 49, 1433), 0)) (by decide +kernel)) (by decide +kernel) (show rg_v (am_up g 164 49 (.int 1)) 164 49 = 1 from rfl) hm_z
        replace hm_z := rn_ifF (am_cur_of (i := (76, 3, .ifCond .eq 7, (47, 0, 0), 0)) (by decide +kernel)) (by decide) hm_z
        replace hm_z := rn_lconst (w := 0) (am_cur_of (i := (79, 1, .lconst 0, (0, 0, 0), 0)) (by decide +kernel)) rfl hm_z
        replace hm_z := rn_goto (am_cur_of (i := (80, 3, .goto 6, (50, 0, 0), 0)) (by decide +kernel)) hm_z
        replace hm_z := rn_lret (am_cur_of (i := (86, 1, .lreturn, (0, 0, 0), 0)) (by decide +kernel)) hm_z
        obtain ⟨e35_z, e36_z⟩ := hm_z
        rw [e36_z]
        exact (nk_u (by decide) nk_r)
      · replace b34_z : (rg_v g 164 49) = (0 : Int32) ∧ (rg_v g 164 49).toInt = (0 : Int32).toInt := b34_z
        replace hm_z := rn_iload (am_cur_of (i := (59, 2, .iload 5, (0, 0, 0), 0)) (by decide +kernel)) g5_z hm_z
        replace hm_z := rn_ifT (am_cur_of (i := (61, 3, .ifCond .eq 7, (40, 0, 0), 0)) (by decide +kernel)) (by decide) hm_z
        replace hm_z := rn_iconst (w := 0) (am_cur_of (i := (68, 1, .iconst 0, (0, 0, 0), 0)) (by decide +kernel)) (by decide) hm_z
        replace hm_z := rn_put (am_cur_of (i := (69, 3, .putfield 327, (12, 49, 1433), 0)) (by decide +kernel)) (by decide +kernel) hm_z
        replace hm_z := rn_aload_n (am_cur_of (i := (72, 1, .aload_n 0, (0, 0, 0), 0)) (by decide +kernel)) g0_z hm_z
        replace hm_z := rn_getI (v := 0) (am_cur_of (i := (73, 3, .getfield 327, (12, 49, 1433), 0)) (by decide +kernel)) (by decide +kernel) (show rg_v (am_up g 164 49 (.int 0)) 164 49 = 0 from rfl) hm_z
        replace hm_z := rn_ifT (am_cur_of (i := (76, 3, .ifCond .eq 7, (47, 0, 0), 0)) (by decide +kernel)) (by decide) hm_z
        replace hm_z := rn_lload_n (am_cur_of (i := (83, 1, .lload_n 1, (0, 0, 0), 0)) (by decide +kernel)) g1_z hm_z
        replace hm_z := rn_lload_n (am_cur_of (i := (84, 1, .lload_n 3, (0, 0, 0), 0)) (by decide +kernel)) g3_z hm_z
        replace hm_z := rn_lmul (w := x * y) (am_cur_of (i := (85, 1, .lmul, (0, 0, 0), 0)) (by decide +kernel)) rfl hm_z
        replace hm_z := rn_lret (am_cur_of (i := (86, 1, .lreturn, (0, 0, 0), 0)) (by decide +kernel)) hm_z
        obtain ⟨e37_z, e38_z⟩ := hm_z
        rw [e38_z]
        exact (nk_u (by decide) nk_r)
    exact H30
theorem nq_194 {nst : Nat} {r : Option Value} {g g' : am_H} {x : Int64} {y : Int64}  (hm_z : rn nst am_m194 0 (lv_args 0 [.ref 164, .long x, .long y]) [] g r g') : nk g g' := by
  have z0_z : (0 : Int32).toInt = 0 := by decide
  have g0_z : am_get (lv_args 0 [.ref 164, .long x, .long y]) 0 = some (.ref 164) := rfl
  have g1_z : am_get (lv_args 0 [.ref 164, .long x, .long y]) 1 = some (.long x) := rfl
  have g3_z : am_get (lv_args 0 [.ref 164, .long x, .long y]) 3 = some (.long y) := rfl
  replace hm_z := rn_lload_n (am_cur_of (i := (0, 1, .lload_n 1, (0, 0, 0), 0)) (by decide +kernel)) g1_z hm_z
  replace hm_z := rn_lconst (w := 0) (am_cur_of (i := (1, 1, .lconst 0, (0, 0, 0), 0)) (by decide +kernel)) rfl hm_z
  replace hm_z := rn_lcmp (w := lg_cmp x 0) (am_cur_of (i := (2, 1, .lcmp, (0, 0, 0), 0)) (by decide +kernel)) rfl hm_z
  replace hm_z := rn_if (am_cur_of (i := (3, 3, .ifCond .eq 45, (30, 0, 0), 0)) (by decide +kernel)) hm_z
  rcases hm_z with ⟨b39_z, hm_z⟩ | ⟨b39_z, hm_z⟩
  · replace b39_z : (lg_cmp x 0) = (0 : Int32) ∧ (lg_cmp x 0).toInt = (0 : Int32).toInt := b39_z
    have H30 := (nq_194_L (r := r) (g' := g') (x := x) (y := y)  nst)
    exact nk_t nk_r (H30 _ _ g0_z g1_z g3_z hm_z)
  · replace b39_z : ¬ (lg_cmp x 0) = (0 : Int32) ∧ ¬ (lg_cmp x 0).toInt = (0 : Int32).toInt := b39_z
    replace hm_z := rn_lload_n (am_cur_of (i := (6, 1, .lload_n 3, (0, 0, 0), 0)) (by decide +kernel)) g3_z hm_z
    replace hm_z := rn_lconst (w := 0) (am_cur_of (i := (7, 1, .lconst 0, (0, 0, 0), 0)) (by decide +kernel)) rfl hm_z
    replace hm_z := rn_lcmp (w := lg_cmp y 0) (am_cur_of (i := (8, 1, .lcmp, (0, 0, 0), 0)) (by decide +kernel)) rfl hm_z
    replace hm_z := rn_if (am_cur_of (i := (9, 3, .ifCond .eq 39, (30, 0, 0), 0)) (by decide +kernel)) hm_z
    rcases hm_z with ⟨b40_z, hm_z⟩ | ⟨b40_z, hm_z⟩
    · replace b40_z : (lg_cmp y 0) = (0 : Int32) ∧ (lg_cmp y 0).toInt = (0 : Int32).toInt := b40_z
      have H30 := (nq_194_L (r := r) (g' := g') (x := x) (y := y)  nst)
      exact nk_t nk_r (H30 _ _ g0_z g1_z g3_z hm_z)
    · replace b40_z : ¬ (lg_cmp y 0) = (0 : Int32) ∧ ¬ (lg_cmp y 0).toInt = (0 : Int32).toInt := b40_z
      replace hm_z := rn_lload_n (am_cur_of (i := (12, 1, .lload_n 3, (0, 0, 0), 0)) (by decide +kernel)) g3_z hm_z
      replace hm_z := rn_lconst (w := 0) (am_cur_of (i := (13, 1, .lconst 0, (0, 0, 0), 0)) (by decide +kernel)) rfl hm_z
      replace hm_z := rn_lcmp (w := lg_cmp y 0) (am_cur_of (i := (14, 1, .lcmp, (0, 0, 0), 0)) (by decide +kernel)) rfl hm_z
      replace hm_z := rn_if (am_cur_of (i := (15, 3, .ifCond .ge 8, (15, 0, 0), 0)) (by decide +kernel)) hm_z
      rcases hm_z with ⟨b41_z, hm_z⟩ | ⟨b41_z, hm_z⟩
      · replace b41_z : (0 : Int32).toInt ≤ (lg_cmp y 0).toInt := b41_z
        replace hm_z := rn_lload_n (am_cur_of (i := (23, 1, .lload_n 3, (0, 0, 0), 0)) (by decide +kernel)) g3_z hm_z
        replace hm_z := rn_ldc2 (w := 1000000000000) (am_cur_of (i := (24, 3, .ldc2_w 330, (0, 0, 1807), 1000000000000)) (by decide +kernel)) (by decide) hm_z
        replace hm_z := rn_lload_n (am_cur_of (i := (27, 1, .lload_n 1, (0, 0, 0), 0)) (by decide +kernel)) g1_z hm_z
        replace hm_z := rn_lconst (w := 0) (am_cur_of (i := (28, 1, .lconst 0, (0, 0, 0), 0)) (by decide +kernel)) rfl hm_z
        replace hm_z := rn_lcmp (w := lg_cmp x 0) (am_cur_of (i := (29, 1, .lcmp, (0, 0, 0), 0)) (by decide +kernel)) rfl hm_z
        replace hm_z := rn_if (am_cur_of (i := (30, 3, .ifCond .ge 8, (24, 0, 0), 0)) (by decide +kernel)) hm_z
        rcases hm_z with ⟨b42_z, hm_z⟩ | ⟨b42_z, hm_z⟩
        · replace b42_z : (0 : Int32).toInt ≤ (lg_cmp x 0).toInt := b42_z
          replace hm_z := rn_lload_n (am_cur_of (i := (38, 1, .lload_n 1, (0, 0, 0), 0)) (by decide +kernel)) g1_z hm_z
          replace hm_z := rn_ldiv (w := 1000000000000 / x) (am_cur_of (i := (39, 1, .ldiv, (0, 0, 0), 0)) (by decide +kernel)) rfl hm_z
          obtain ⟨d43_z, hm_z⟩ := hm_z
          replace hm_z := rn_lcmp (w := lg_cmp y (1000000000000 / x)) (am_cur_of (i := (40, 1, .lcmp, (0, 0, 0), 0)) (by decide +kernel)) rfl hm_z
          replace hm_z := rn_if (am_cur_of (i := (41, 3, .ifCond .le 7, (30, 0, 0), 0)) (by decide +kernel)) hm_z
          rcases hm_z with ⟨b44_z, hm_z⟩ | ⟨b44_z, hm_z⟩
          · replace b44_z : (lg_cmp y (1000000000000 / x)).toInt ≤ (0 : Int32).toInt := b44_z
            have H30 := (nq_194_L (r := r) (g' := g') (x := x) (y := y)  nst)
            exact nk_t nk_r (H30 _ _ g0_z g1_z g3_z hm_z)
          · replace b44_z : (0 : Int32).toInt < (lg_cmp y (1000000000000 / x)).toInt := b44_z
            replace hm_z := rn_iconst (w := 1) (am_cur_of (i := (44, 1, .iconst 1, (0, 0, 0), 0)) (by decide +kernel)) (by decide) hm_z
            replace hm_z := rn_goto (am_cur_of (i := (45, 3, .goto 4, (31, 0, 0), 0)) (by decide +kernel)) hm_z
            replace hm_z := rn_istore (am_cur_of (i := (49, 2, .istore 5, (0, 0, 0), 0)) (by decide +kernel)) hm_z
            obtain ⟨_, s45_z, s46_z, g5_z, hm_z⟩ := hm_z
            replace g0_z := s45_z 0 _ (by decide) rfl g0_z
            replace g1_z := s46_z 1 _ (by decide) (by decide) g1_z
            replace g3_z := s46_z 3 _ (by decide) (by decide) g3_z
            clear s45_z s46_z
            replace hm_z := rn_aload_n (am_cur_of (i := (51, 1, .aload_n 0, (0, 0, 0), 0)) (by decide +kernel)) g0_z hm_z
            replace hm_z := rn_aload_n (am_cur_of (i := (52, 1, .aload_n 0, (0, 0, 0), 0)) (by decide +kernel)) g0_z hm_z
            replace hm_z := rn_getI (v := rg_v g 164 49) (am_cur_of (i := (53, 3, .getfield 327, (12, 49, 1433), 0)) (by decide +kernel)) (by decide +kernel) rfl hm_z
            replace hm_z := rn_if (am_cur_of (i := (56, 3, .ifCond .ne 8, (38, 0, 0), 0)) (by decide +kernel)) hm_z
            rcases hm_z with ⟨b47_z, hm_z⟩ | ⟨b47_z, hm_z⟩
            · replace b47_z : ¬ (rg_v g 164 49) = (0 : Int32) ∧ ¬ (rg_v g 164 49).toInt = (0 : Int32).toInt := b47_z
              replace hm_z := rn_iconst (w := 1) (am_cur_of (i := (64, 1, .iconst 1, (0, 0, 0), 0)) (by decide +kernel)) (by decide) hm_z
              replace hm_z := rn_goto (am_cur_of (i := (65, 3, .goto 4, (41, 0, 0), 0)) (by decide +kernel)) hm_z
              replace hm_z := rn_put (am_cur_of (i := (69, 3, .putfield 327, (12, 49, 1433), 0)) (by decide +kernel)) (by decide +kernel) hm_z
              replace hm_z := rn_aload_n (am_cur_of (i := (72, 1, .aload_n 0, (0, 0, 0), 0)) (by decide +kernel)) g0_z hm_z
              replace hm_z := rn_getI (v := 1) (am_cur_of (i := (73, 3, .getfield 327, (12, 49, 1433), 0)) (by decide +kernel)) (by decide +kernel) (show rg_v (am_up g 164 49 (.int 1)) 164 49 = 1 from rfl) hm_z
              replace hm_z := rn_ifF (am_cur_of (i := (76, 3, .ifCond .eq 7, (47, 0, 0), 0)) (by decide +kernel)) (by decide) hm_z
              replace hm_z := rn_lconst (w := 0) (am_cur_of (i := (79, 1, .lconst 0, (0, 0, 0), 0)) (by decide +kernel)) rfl hm_z
              replace hm_z := rn_goto (am_cur_of (i := (80, 3, .goto 6, (50, 0, 0), 0)) (by decide +kernel)) hm_z
              replace hm_z := rn_lret (am_cur_of (i := (86, 1, .lreturn, (0, 0, 0), 0)) (by decide +kernel)) hm_z
              obtain ⟨e48_z, e49_z⟩ := hm_z
              rw [e49_z]
              exact (nk_u (by decide) nk_r)
            · replace b47_z : (rg_v g 164 49) = (0 : Int32) ∧ (rg_v g 164 49).toInt = (0 : Int32).toInt := b47_z
              replace hm_z := rn_iload (am_cur_of (i := (59, 2, .iload 5, (0, 0, 0), 0)) (by decide +kernel)) g5_z hm_z
              replace hm_z := rn_ifF (am_cur_of (i := (61, 3, .ifCond .eq 7, (40, 0, 0), 0)) (by decide +kernel)) (by decide) hm_z
              replace hm_z := rn_iconst (w := 1) (am_cur_of (i := (64, 1, .iconst 1, (0, 0, 0), 0)) (by decide +kernel)) (by decide) hm_z
              replace hm_z := rn_goto (am_cur_of (i := (65, 3, .goto 4, (41, 0, 0), 0)) (by decide +kernel)) hm_z
              replace hm_z := rn_put (am_cur_of (i := (69, 3, .putfield 327, (12, 49, 1433), 0)) (by decide +kernel)) (by decide +kernel) hm_z
              replace hm_z := rn_aload_n (am_cur_of (i := (72, 1, .aload_n 0, (0, 0, 0), 0)) (by decide +kernel)) g0_z hm_z
              replace hm_z := rn_getI (v := 1) (am_cur_of (i := (73, 3, .getfield 327, (12, 49, 1433), 0)) (by decide +kernel)) (by decide +kernel) (show rg_v (am_up g 164 49 (.int 1)) 164 49 = 1 from rfl) hm_z
              replace hm_z := rn_ifF (am_cur_of (i := (76, 3, .ifCond .eq 7, (47, 0, 0), 0)) (by decide +kernel)) (by decide) hm_z
              replace hm_z := rn_lconst (w := 0) (am_cur_of (i := (79, 1, .lconst 0, (0, 0, 0), 0)) (by decide +kernel)) rfl hm_z
              replace hm_z := rn_goto (am_cur_of (i := (80, 3, .goto 6, (50, 0, 0), 0)) (by decide +kernel)) hm_z
              replace hm_z := rn_lret (am_cur_of (i := (86, 1, .lreturn, (0, 0, 0), 0)) (by decide +kernel)) hm_z
              obtain ⟨e50_z, e51_z⟩ := hm_z
              rw [e51_z]
              exact (nk_u (by decide) nk_r)
        · replace b42_z : (lg_cmp x 0).toInt < (0 : Int32).toInt := b42_z
          replace hm_z := rn_lload_n (am_cur_of (i := (33, 1, .lload_n 1, (0, 0, 0), 0)) (by decide +kernel)) g1_z hm_z
          replace hm_z := rn_lneg (w := -x) (am_cur_of (i := (34, 1, .lneg, (0, 0, 0), 0)) (by decide +kernel)) rfl hm_z
          replace hm_z := rn_goto (am_cur_of (i := (35, 3, .goto 4, (25, 0, 0), 0)) (by decide +kernel)) hm_z
          replace hm_z := rn_ldiv (w := 1000000000000 / (-x)) (am_cur_of (i := (39, 1, .ldiv, (0, 0, 0), 0)) (by decide +kernel)) rfl hm_z
          obtain ⟨d52_z, hm_z⟩ := hm_z
          replace hm_z := rn_lcmp (w := lg_cmp y (1000000000000 / (-x))) (am_cur_of (i := (40, 1, .lcmp, (0, 0, 0), 0)) (by decide +kernel)) rfl hm_z
          replace hm_z := rn_if (am_cur_of (i := (41, 3, .ifCond .le 7, (30, 0, 0), 0)) (by decide +kernel)) hm_z
          rcases hm_z with ⟨b53_z, hm_z⟩ | ⟨b53_z, hm_z⟩
          · replace b53_z : (lg_cmp y (1000000000000 / (-x))).toInt ≤ (0 : Int32).toInt := b53_z
            have H30 := (nq_194_L (r := r) (g' := g') (x := x) (y := y)  nst)
            exact nk_t nk_r (H30 _ _ g0_z g1_z g3_z hm_z)
          · replace b53_z : (0 : Int32).toInt < (lg_cmp y (1000000000000 / (-x))).toInt := b53_z
            replace hm_z := rn_iconst (w := 1) (am_cur_of (i := (44, 1, .iconst 1, (0, 0, 0), 0)) (by decide +kernel)) (by decide) hm_z
            replace hm_z := rn_goto (am_cur_of (i := (45, 3, .goto 4, (31, 0, 0), 0)) (by decide +kernel)) hm_z
            replace hm_z := rn_istore (am_cur_of (i := (49, 2, .istore 5, (0, 0, 0), 0)) (by decide +kernel)) hm_z
            obtain ⟨_, s54_z, s55_z, g5_z, hm_z⟩ := hm_z
            replace g0_z := s54_z 0 _ (by decide) rfl g0_z
            replace g1_z := s55_z 1 _ (by decide) (by decide) g1_z
            replace g3_z := s55_z 3 _ (by decide) (by decide) g3_z
            clear s54_z s55_z
            replace hm_z := rn_aload_n (am_cur_of (i := (51, 1, .aload_n 0, (0, 0, 0), 0)) (by decide +kernel)) g0_z hm_z
            replace hm_z := rn_aload_n (am_cur_of (i := (52, 1, .aload_n 0, (0, 0, 0), 0)) (by decide +kernel)) g0_z hm_z
            replace hm_z := rn_getI (v := rg_v g 164 49) (am_cur_of (i := (53, 3, .getfield 327, (12, 49, 1433), 0)) (by decide +kernel)) (by decide +kernel) rfl hm_z
            replace hm_z := rn_if (am_cur_of (i := (56, 3, .ifCond .ne 8, (38, 0, 0), 0)) (by decide +kernel)) hm_z
            rcases hm_z with ⟨b56_z, hm_z⟩ | ⟨b56_z, hm_z⟩
            · replace b56_z : ¬ (rg_v g 164 49) = (0 : Int32) ∧ ¬ (rg_v g 164 49).toInt = (0 : Int32).toInt := b56_z
              replace hm_z := rn_iconst (w := 1) (am_cur_of (i := (64, 1, .iconst 1, (0, 0, 0), 0)) (by decide +kernel)) (by decide) hm_z
              replace hm_z := rn_goto (am_cur_of (i := (65, 3, .goto 4, (41, 0, 0), 0)) (by decide +kernel)) hm_z
              replace hm_z := rn_put (am_cur_of (i := (69, 3, .putfield 327, (12, 49, 1433), 0)) (by decide +kernel)) (by decide +kernel) hm_z
              replace hm_z := rn_aload_n (am_cur_of (i := (72, 1, .aload_n 0, (0, 0, 0), 0)) (by decide +kernel)) g0_z hm_z
              replace hm_z := rn_getI (v := 1) (am_cur_of (i := (73, 3, .getfield 327, (12, 49, 1433), 0)) (by decide +kernel)) (by decide +kernel) (show rg_v (am_up g 164 49 (.int 1)) 164 49 = 1 from rfl) hm_z
              replace hm_z := rn_ifF (am_cur_of (i := (76, 3, .ifCond .eq 7, (47, 0, 0), 0)) (by decide +kernel)) (by decide) hm_z
              replace hm_z := rn_lconst (w := 0) (am_cur_of (i := (79, 1, .lconst 0, (0, 0, 0), 0)) (by decide +kernel)) rfl hm_z
              replace hm_z := rn_goto (am_cur_of (i := (80, 3, .goto 6, (50, 0, 0), 0)) (by decide +kernel)) hm_z
              replace hm_z := rn_lret (am_cur_of (i := (86, 1, .lreturn, (0, 0, 0), 0)) (by decide +kernel)) hm_z
              obtain ⟨e57_z, e58_z⟩ := hm_z
              rw [e58_z]
              exact (nk_u (by decide) nk_r)
            · replace b56_z : (rg_v g 164 49) = (0 : Int32) ∧ (rg_v g 164 49).toInt = (0 : Int32).toInt := b56_z
              replace hm_z := rn_iload (am_cur_of (i := (59, 2, .iload 5, (0, 0, 0), 0)) (by decide +kernel)) g5_z hm_z
              replace hm_z := rn_ifF (am_cur_of (i := (61, 3, .ifCond .eq 7, (40, 0, 0), 0)) (by decide +kernel)) (by decide) hm_z
              replace hm_z := rn_iconst (w := 1) (am_cur_of (i := (64, 1, .iconst 1, (0, 0, 0), 0)) (by decide +kernel)) (by decide) hm_z
              replace hm_z := rn_goto (am_cur_of (i := (65, 3, .goto 4, (41, 0, 0), 0)) (by decide +kernel)) hm_z
              replace hm_z := rn_put (am_cur_of (i := (69, 3, .putfield 327, (12, 49, 1433), 0)) (by decide +kernel)) (by decide +kernel) hm_z
              replace hm_z := rn_aload_n (am_cur_of (i := (72, 1, .aload_n 0, (0, 0, 0), 0)) (by decide +kernel)) g0_z hm_z
              replace hm_z := rn_getI (v := 1) (am_cur_of (i := (73, 3, .getfield 327, (12, 49, 1433), 0)) (by decide +kernel)) (by decide +kernel) (show rg_v (am_up g 164 49 (.int 1)) 164 49 = 1 from rfl) hm_z
              replace hm_z := rn_ifF (am_cur_of (i := (76, 3, .ifCond .eq 7, (47, 0, 0), 0)) (by decide +kernel)) (by decide) hm_z
              replace hm_z := rn_lconst (w := 0) (am_cur_of (i := (79, 1, .lconst 0, (0, 0, 0), 0)) (by decide +kernel)) rfl hm_z
              replace hm_z := rn_goto (am_cur_of (i := (80, 3, .goto 6, (50, 0, 0), 0)) (by decide +kernel)) hm_z
              replace hm_z := rn_lret (am_cur_of (i := (86, 1, .lreturn, (0, 0, 0), 0)) (by decide +kernel)) hm_z
              obtain ⟨e59_z, e60_z⟩ := hm_z
              rw [e60_z]
              exact (nk_u (by decide) nk_r)
      · replace b41_z : (lg_cmp y 0).toInt < (0 : Int32).toInt := b41_z
        replace hm_z := rn_lload_n (am_cur_of (i := (18, 1, .lload_n 3, (0, 0, 0), 0)) (by decide +kernel)) g3_z hm_z
        replace hm_z := rn_lneg (w := -y) (am_cur_of (i := (19, 1, .lneg, (0, 0, 0), 0)) (by decide +kernel)) rfl hm_z
        replace hm_z := rn_goto (am_cur_of (i := (20, 3, .goto 4, (16, 0, 0), 0)) (by decide +kernel)) hm_z
        replace hm_z := rn_ldc2 (w := 1000000000000) (am_cur_of (i := (24, 3, .ldc2_w 330, (0, 0, 1807), 1000000000000)) (by decide +kernel)) (by decide) hm_z
        replace hm_z := rn_lload_n (am_cur_of (i := (27, 1, .lload_n 1, (0, 0, 0), 0)) (by decide +kernel)) g1_z hm_z
        replace hm_z := rn_lconst (w := 0) (am_cur_of (i := (28, 1, .lconst 0, (0, 0, 0), 0)) (by decide +kernel)) rfl hm_z
        replace hm_z := rn_lcmp (w := lg_cmp x 0) (am_cur_of (i := (29, 1, .lcmp, (0, 0, 0), 0)) (by decide +kernel)) rfl hm_z
        replace hm_z := rn_if (am_cur_of (i := (30, 3, .ifCond .ge 8, (24, 0, 0), 0)) (by decide +kernel)) hm_z
        rcases hm_z with ⟨b61_z, hm_z⟩ | ⟨b61_z, hm_z⟩
        · replace b61_z : (0 : Int32).toInt ≤ (lg_cmp x 0).toInt := b61_z
          replace hm_z := rn_lload_n (am_cur_of (i := (38, 1, .lload_n 1, (0, 0, 0), 0)) (by decide +kernel)) g1_z hm_z
          replace hm_z := rn_ldiv (w := 1000000000000 / x) (am_cur_of (i := (39, 1, .ldiv, (0, 0, 0), 0)) (by decide +kernel)) rfl hm_z
          obtain ⟨d62_z, hm_z⟩ := hm_z
          replace hm_z := rn_lcmp (w := lg_cmp (-y) (1000000000000 / x)) (am_cur_of (i := (40, 1, .lcmp, (0, 0, 0), 0)) (by decide +kernel)) rfl hm_z
          replace hm_z := rn_if (am_cur_of (i := (41, 3, .ifCond .le 7, (30, 0, 0), 0)) (by decide +kernel)) hm_z
          rcases hm_z with ⟨b63_z, hm_z⟩ | ⟨b63_z, hm_z⟩
          · replace b63_z : (lg_cmp (-y) (1000000000000 / x)).toInt ≤ (0 : Int32).toInt := b63_z
            have H30 := (nq_194_L (r := r) (g' := g') (x := x) (y := y)  nst)
            exact nk_t nk_r (H30 _ _ g0_z g1_z g3_z hm_z)
          · replace b63_z : (0 : Int32).toInt < (lg_cmp (-y) (1000000000000 / x)).toInt := b63_z
            replace hm_z := rn_iconst (w := 1) (am_cur_of (i := (44, 1, .iconst 1, (0, 0, 0), 0)) (by decide +kernel)) (by decide) hm_z
            replace hm_z := rn_goto (am_cur_of (i := (45, 3, .goto 4, (31, 0, 0), 0)) (by decide +kernel)) hm_z
            replace hm_z := rn_istore (am_cur_of (i := (49, 2, .istore 5, (0, 0, 0), 0)) (by decide +kernel)) hm_z
            obtain ⟨_, s64_z, s65_z, g5_z, hm_z⟩ := hm_z
            replace g0_z := s64_z 0 _ (by decide) rfl g0_z
            replace g1_z := s65_z 1 _ (by decide) (by decide) g1_z
            replace g3_z := s65_z 3 _ (by decide) (by decide) g3_z
            clear s64_z s65_z
            replace hm_z := rn_aload_n (am_cur_of (i := (51, 1, .aload_n 0, (0, 0, 0), 0)) (by decide +kernel)) g0_z hm_z
            replace hm_z := rn_aload_n (am_cur_of (i := (52, 1, .aload_n 0, (0, 0, 0), 0)) (by decide +kernel)) g0_z hm_z
            replace hm_z := rn_getI (v := rg_v g 164 49) (am_cur_of (i := (53, 3, .getfield 327, (12, 49, 1433), 0)) (by decide +kernel)) (by decide +kernel) rfl hm_z
            replace hm_z := rn_if (am_cur_of (i := (56, 3, .ifCond .ne 8, (38, 0, 0), 0)) (by decide +kernel)) hm_z
            rcases hm_z with ⟨b66_z, hm_z⟩ | ⟨b66_z, hm_z⟩
            · replace b66_z : ¬ (rg_v g 164 49) = (0 : Int32) ∧ ¬ (rg_v g 164 49).toInt = (0 : Int32).toInt := b66_z
              replace hm_z := rn_iconst (w := 1) (am_cur_of (i := (64, 1, .iconst 1, (0, 0, 0), 0)) (by decide +kernel)) (by decide) hm_z
              replace hm_z := rn_goto (am_cur_of (i := (65, 3, .goto 4, (41, 0, 0), 0)) (by decide +kernel)) hm_z
              replace hm_z := rn_put (am_cur_of (i := (69, 3, .putfield 327, (12, 49, 1433), 0)) (by decide +kernel)) (by decide +kernel) hm_z
              replace hm_z := rn_aload_n (am_cur_of (i := (72, 1, .aload_n 0, (0, 0, 0), 0)) (by decide +kernel)) g0_z hm_z
              replace hm_z := rn_getI (v := 1) (am_cur_of (i := (73, 3, .getfield 327, (12, 49, 1433), 0)) (by decide +kernel)) (by decide +kernel) (show rg_v (am_up g 164 49 (.int 1)) 164 49 = 1 from rfl) hm_z
              replace hm_z := rn_ifF (am_cur_of (i := (76, 3, .ifCond .eq 7, (47, 0, 0), 0)) (by decide +kernel)) (by decide) hm_z
              replace hm_z := rn_lconst (w := 0) (am_cur_of (i := (79, 1, .lconst 0, (0, 0, 0), 0)) (by decide +kernel)) rfl hm_z
              replace hm_z := rn_goto (am_cur_of (i := (80, 3, .goto 6, (50, 0, 0), 0)) (by decide +kernel)) hm_z
              replace hm_z := rn_lret (am_cur_of (i := (86, 1, .lreturn, (0, 0, 0), 0)) (by decide +kernel)) hm_z
              obtain ⟨e67_z, e68_z⟩ := hm_z
              rw [e68_z]
              exact (nk_u (by decide) nk_r)
            · replace b66_z : (rg_v g 164 49) = (0 : Int32) ∧ (rg_v g 164 49).toInt = (0 : Int32).toInt := b66_z
              replace hm_z := rn_iload (am_cur_of (i := (59, 2, .iload 5, (0, 0, 0), 0)) (by decide +kernel)) g5_z hm_z
              replace hm_z := rn_ifF (am_cur_of (i := (61, 3, .ifCond .eq 7, (40, 0, 0), 0)) (by decide +kernel)) (by decide) hm_z
              replace hm_z := rn_iconst (w := 1) (am_cur_of (i := (64, 1, .iconst 1, (0, 0, 0), 0)) (by decide +kernel)) (by decide) hm_z
              replace hm_z := rn_goto (am_cur_of (i := (65, 3, .goto 4, (41, 0, 0), 0)) (by decide +kernel)) hm_z
              replace hm_z := rn_put (am_cur_of (i := (69, 3, .putfield 327, (12, 49, 1433), 0)) (by decide +kernel)) (by decide +kernel) hm_z
              replace hm_z := rn_aload_n (am_cur_of (i := (72, 1, .aload_n 0, (0, 0, 0), 0)) (by decide +kernel)) g0_z hm_z
              replace hm_z := rn_getI (v := 1) (am_cur_of (i := (73, 3, .getfield 327, (12, 49, 1433), 0)) (by decide +kernel)) (by decide +kernel) (show rg_v (am_up g 164 49 (.int 1)) 164 49 = 1 from rfl) hm_z
              replace hm_z := rn_ifF (am_cur_of (i := (76, 3, .ifCond .eq 7, (47, 0, 0), 0)) (by decide +kernel)) (by decide) hm_z
              replace hm_z := rn_lconst (w := 0) (am_cur_of (i := (79, 1, .lconst 0, (0, 0, 0), 0)) (by decide +kernel)) rfl hm_z
              replace hm_z := rn_goto (am_cur_of (i := (80, 3, .goto 6, (50, 0, 0), 0)) (by decide +kernel)) hm_z
              replace hm_z := rn_lret (am_cur_of (i := (86, 1, .lreturn, (0, 0, 0), 0)) (by decide +kernel)) hm_z
              obtain ⟨e69_z, e70_z⟩ := hm_z
              rw [e70_z]
              exact (nk_u (by decide) nk_r)
        · replace b61_z : (lg_cmp x 0).toInt < (0 : Int32).toInt := b61_z
          replace hm_z := rn_lload_n (am_cur_of (i := (33, 1, .lload_n 1, (0, 0, 0), 0)) (by decide +kernel)) g1_z hm_z
          replace hm_z := rn_lneg (w := -x) (am_cur_of (i := (34, 1, .lneg, (0, 0, 0), 0)) (by decide +kernel)) rfl hm_z
          replace hm_z := rn_goto (am_cur_of (i := (35, 3, .goto 4, (25, 0, 0), 0)) (by decide +kernel)) hm_z
          replace hm_z := rn_ldiv (w := 1000000000000 / (-x)) (am_cur_of (i := (39, 1, .ldiv, (0, 0, 0), 0)) (by decide +kernel)) rfl hm_z
          obtain ⟨d71_z, hm_z⟩ := hm_z
          replace hm_z := rn_lcmp (w := lg_cmp (-y) (1000000000000 / (-x))) (am_cur_of (i := (40, 1, .lcmp, (0, 0, 0), 0)) (by decide +kernel)) rfl hm_z
          replace hm_z := rn_if (am_cur_of (i := (41, 3, .ifCond .le 7, (30, 0, 0), 0)) (by decide +kernel)) hm_z
          rcases hm_z with ⟨b72_z, hm_z⟩ | ⟨b72_z, hm_z⟩
          · replace b72_z : (lg_cmp (-y) (1000000000000 / (-x))).toInt ≤ (0 : Int32).toInt := b72_z
            have H30 := (nq_194_L (r := r) (g' := g') (x := x) (y := y)  nst)
            exact nk_t nk_r (H30 _ _ g0_z g1_z g3_z hm_z)
          · replace b72_z : (0 : Int32).toInt < (lg_cmp (-y) (1000000000000 / (-x))).toInt := b72_z
            replace hm_z := rn_iconst (w := 1) (am_cur_of (i := (44, 1, .iconst 1, (0, 0, 0), 0)) (by decide +kernel)) (by decide) hm_z
            replace hm_z := rn_goto (am_cur_of (i := (45, 3, .goto 4, (31, 0, 0), 0)) (by decide +kernel)) hm_z
            replace hm_z := rn_istore (am_cur_of (i := (49, 2, .istore 5, (0, 0, 0), 0)) (by decide +kernel)) hm_z
            obtain ⟨_, s73_z, s74_z, g5_z, hm_z⟩ := hm_z
            replace g0_z := s73_z 0 _ (by decide) rfl g0_z
            replace g1_z := s74_z 1 _ (by decide) (by decide) g1_z
            replace g3_z := s74_z 3 _ (by decide) (by decide) g3_z
            clear s73_z s74_z
            replace hm_z := rn_aload_n (am_cur_of (i := (51, 1, .aload_n 0, (0, 0, 0), 0)) (by decide +kernel)) g0_z hm_z
            replace hm_z := rn_aload_n (am_cur_of (i := (52, 1, .aload_n 0, (0, 0, 0), 0)) (by decide +kernel)) g0_z hm_z
            replace hm_z := rn_getI (v := rg_v g 164 49) (am_cur_of (i := (53, 3, .getfield 327, (12, 49, 1433), 0)) (by decide +kernel)) (by decide +kernel) rfl hm_z
            replace hm_z := rn_if (am_cur_of (i := (56, 3, .ifCond .ne 8, (38, 0, 0), 0)) (by decide +kernel)) hm_z
            rcases hm_z with ⟨b75_z, hm_z⟩ | ⟨b75_z, hm_z⟩
            · replace b75_z : ¬ (rg_v g 164 49) = (0 : Int32) ∧ ¬ (rg_v g 164 49).toInt = (0 : Int32).toInt := b75_z
              replace hm_z := rn_iconst (w := 1) (am_cur_of (i := (64, 1, .iconst 1, (0, 0, 0), 0)) (by decide +kernel)) (by decide) hm_z
              replace hm_z := rn_goto (am_cur_of (i := (65, 3, .goto 4, (41, 0, 0), 0)) (by decide +kernel)) hm_z
              replace hm_z := rn_put (am_cur_of (i := (69, 3, .putfield 327, (12, 49, 1433), 0)) (by decide +kernel)) (by decide +kernel) hm_z
              replace hm_z := rn_aload_n (am_cur_of (i := (72, 1, .aload_n 0, (0, 0, 0), 0)) (by decide +kernel)) g0_z hm_z
              replace hm_z := rn_getI (v := 1) (am_cur_of (i := (73, 3, .getfield 327, (12, 49, 1433), 0)) (by decide +kernel)) (by decide +kernel) (show rg_v (am_up g 164 49 (.int 1)) 164 49 = 1 from rfl) hm_z
              replace hm_z := rn_ifF (am_cur_of (i := (76, 3, .ifCond .eq 7, (47, 0, 0), 0)) (by decide +kernel)) (by decide) hm_z
              replace hm_z := rn_lconst (w := 0) (am_cur_of (i := (79, 1, .lconst 0, (0, 0, 0), 0)) (by decide +kernel)) rfl hm_z
              replace hm_z := rn_goto (am_cur_of (i := (80, 3, .goto 6, (50, 0, 0), 0)) (by decide +kernel)) hm_z
              replace hm_z := rn_lret (am_cur_of (i := (86, 1, .lreturn, (0, 0, 0), 0)) (by decide +kernel)) hm_z
              obtain ⟨e76_z, e77_z⟩ := hm_z
              rw [e77_z]
              exact (nk_u (by decide) nk_r)
            · replace b75_z : (rg_v g 164 49) = (0 : Int32) ∧ (rg_v g 164 49).toInt = (0 : Int32).toInt := b75_z
              replace hm_z := rn_iload (am_cur_of (i := (59, 2, .iload 5, (0, 0, 0), 0)) (by decide +kernel)) g5_z hm_z
              replace hm_z := rn_ifF (am_cur_of (i := (61, 3, .ifCond .eq 7, (40, 0, 0), 0)) (by decide +kernel)) (by decide) hm_z
              replace hm_z := rn_iconst (w := 1) (am_cur_of (i := (64, 1, .iconst 1, (0, 0, 0), 0)) (by decide +kernel)) (by decide) hm_z
              replace hm_z := rn_goto (am_cur_of (i := (65, 3, .goto 4, (41, 0, 0), 0)) (by decide +kernel)) hm_z
              replace hm_z := rn_put (am_cur_of (i := (69, 3, .putfield 327, (12, 49, 1433), 0)) (by decide +kernel)) (by decide +kernel) hm_z
              replace hm_z := rn_aload_n (am_cur_of (i := (72, 1, .aload_n 0, (0, 0, 0), 0)) (by decide +kernel)) g0_z hm_z
              replace hm_z := rn_getI (v := 1) (am_cur_of (i := (73, 3, .getfield 327, (12, 49, 1433), 0)) (by decide +kernel)) (by decide +kernel) (show rg_v (am_up g 164 49 (.int 1)) 164 49 = 1 from rfl) hm_z
              replace hm_z := rn_ifF (am_cur_of (i := (76, 3, .ifCond .eq 7, (47, 0, 0), 0)) (by decide +kernel)) (by decide) hm_z
              replace hm_z := rn_lconst (w := 0) (am_cur_of (i := (79, 1, .lconst 0, (0, 0, 0), 0)) (by decide +kernel)) rfl hm_z
              replace hm_z := rn_goto (am_cur_of (i := (80, 3, .goto 6, (50, 0, 0), 0)) (by decide +kernel)) hm_z
              replace hm_z := rn_lret (am_cur_of (i := (86, 1, .lreturn, (0, 0, 0), 0)) (by decide +kernel)) hm_z
              obtain ⟨e78_z, e79_z⟩ := hm_z
              rw [e79_z]
              exact (nk_u (by decide) nk_r)
theorem nq_195 {nst : Nat} {r : Option Value} {g g' : am_H} {s : Int32} {x : Int64} {y : Int64}  (hm_z : rn nst am_m195 0 (lv_args 0 [.int s, .long x, .long y]) [] g r g') : nk g g' := by
  have z0_z : (0 : Int32).toInt = 0 := by decide
  have g0_z : am_get (lv_args 0 [.int s, .long x, .long y]) 0 = some (.int s) := rfl
  have g1_z : am_get (lv_args 0 [.int s, .long x, .long y]) 1 = some (.long x) := rfl
  have g3_z : am_get (lv_args 0 [.int s, .long x, .long y]) 3 = some (.long y) := rfl
  replace hm_z := rn_iload_n (am_cur_of (i := (0, 1, .iload_n 0, (0, 0, 0), 0)) (by decide +kernel)) g0_z hm_z
  by_cases v80_z : s = 5
  · replace hm_z := rn_swI (off := 35) (a := 2) (am_cur_of (i := (1, 35, .tableswitch 95 5 9 #[35, 47, 59, 71, 83], (0, 0, 0), 0)) (by decide +kernel)) (by rw [v80_z]; decide) (by rw [v80_z]; decide) (by decide +kernel) hm_z
    replace hm_z := rn_lload_n (am_cur_of (i := (36, 1, .lload_n 1, (0, 0, 0), 0)) (by decide +kernel)) g1_z hm_z
    replace hm_z := rn_lload_n (am_cur_of (i := (37, 1, .lload_n 3, (0, 0, 0), 0)) (by decide +kernel)) g3_z hm_z
    replace hm_z := rn_lcmp (w := lg_cmp x y) (am_cur_of (i := (38, 1, .lcmp, (0, 0, 0), 0)) (by decide +kernel)) rfl hm_z
    replace hm_z := rn_if (am_cur_of (i := (39, 3, .ifCond .ge 7, (8, 0, 0), 0)) (by decide +kernel)) hm_z
    rcases hm_z with ⟨b81_z, hm_z⟩ | ⟨b81_z, hm_z⟩
    · replace b81_z : (0 : Int32).toInt ≤ (lg_cmp x y).toInt := b81_z
      replace hm_z := rn_iconst (w := 0) (am_cur_of (i := (46, 1, .iconst 0, (0, 0, 0), 0)) (by decide +kernel)) (by decide) hm_z
      replace hm_z := rn_iret (am_cur_of (i := (47, 1, .ireturn, (0, 0, 0), 0)) (by decide +kernel)) hm_z
      obtain ⟨e82_z, e83_z⟩ := hm_z
      rw [e83_z]
      exact nk_r
    · replace b81_z : (lg_cmp x y).toInt < (0 : Int32).toInt := b81_z
      replace hm_z := rn_iconst (w := 1) (am_cur_of (i := (42, 1, .iconst 1, (0, 0, 0), 0)) (by decide +kernel)) (by decide) hm_z
      replace hm_z := rn_goto (am_cur_of (i := (43, 3, .goto 4, (9, 0, 0), 0)) (by decide +kernel)) hm_z
      replace hm_z := rn_iret (am_cur_of (i := (47, 1, .ireturn, (0, 0, 0), 0)) (by decide +kernel)) hm_z
      obtain ⟨e84_z, e85_z⟩ := hm_z
      rw [e85_z]
      exact nk_r
  by_cases v86_z : s = 6
  · replace hm_z := rn_swI (off := 47) (a := 10) (am_cur_of (i := (1, 35, .tableswitch 95 5 9 #[35, 47, 59, 71, 83], (0, 0, 0), 0)) (by decide +kernel)) (by rw [v86_z]; decide) (by rw [v86_z]; decide) (by decide +kernel) hm_z
    replace hm_z := rn_lload_n (am_cur_of (i := (48, 1, .lload_n 1, (0, 0, 0), 0)) (by decide +kernel)) g1_z hm_z
    replace hm_z := rn_lload_n (am_cur_of (i := (49, 1, .lload_n 3, (0, 0, 0), 0)) (by decide +kernel)) g3_z hm_z
    replace hm_z := rn_lcmp (w := lg_cmp x y) (am_cur_of (i := (50, 1, .lcmp, (0, 0, 0), 0)) (by decide +kernel)) rfl hm_z
    replace hm_z := rn_if (am_cur_of (i := (51, 3, .ifCond .gt 7, (16, 0, 0), 0)) (by decide +kernel)) hm_z
    rcases hm_z with ⟨b87_z, hm_z⟩ | ⟨b87_z, hm_z⟩
    · replace b87_z : (0 : Int32).toInt < (lg_cmp x y).toInt := b87_z
      replace hm_z := rn_iconst (w := 0) (am_cur_of (i := (58, 1, .iconst 0, (0, 0, 0), 0)) (by decide +kernel)) (by decide) hm_z
      replace hm_z := rn_iret (am_cur_of (i := (59, 1, .ireturn, (0, 0, 0), 0)) (by decide +kernel)) hm_z
      obtain ⟨e88_z, e89_z⟩ := hm_z
      rw [e89_z]
      exact nk_r
    · replace b87_z : (lg_cmp x y).toInt ≤ (0 : Int32).toInt := b87_z
      replace hm_z := rn_iconst (w := 1) (am_cur_of (i := (54, 1, .iconst 1, (0, 0, 0), 0)) (by decide +kernel)) (by decide) hm_z
      replace hm_z := rn_goto (am_cur_of (i := (55, 3, .goto 4, (17, 0, 0), 0)) (by decide +kernel)) hm_z
      replace hm_z := rn_iret (am_cur_of (i := (59, 1, .ireturn, (0, 0, 0), 0)) (by decide +kernel)) hm_z
      obtain ⟨e90_z, e91_z⟩ := hm_z
      rw [e91_z]
      exact nk_r
  by_cases v92_z : s = 7
  · replace hm_z := rn_swI (off := 59) (a := 18) (am_cur_of (i := (1, 35, .tableswitch 95 5 9 #[35, 47, 59, 71, 83], (0, 0, 0), 0)) (by decide +kernel)) (by rw [v92_z]; decide) (by rw [v92_z]; decide) (by decide +kernel) hm_z
    replace hm_z := rn_lload_n (am_cur_of (i := (60, 1, .lload_n 1, (0, 0, 0), 0)) (by decide +kernel)) g1_z hm_z
    replace hm_z := rn_lload_n (am_cur_of (i := (61, 1, .lload_n 3, (0, 0, 0), 0)) (by decide +kernel)) g3_z hm_z
    replace hm_z := rn_lcmp (w := lg_cmp x y) (am_cur_of (i := (62, 1, .lcmp, (0, 0, 0), 0)) (by decide +kernel)) rfl hm_z
    replace hm_z := rn_if (am_cur_of (i := (63, 3, .ifCond .ne 7, (24, 0, 0), 0)) (by decide +kernel)) hm_z
    rcases hm_z with ⟨b93_z, hm_z⟩ | ⟨b93_z, hm_z⟩
    · replace b93_z : ¬ (lg_cmp x y) = (0 : Int32) ∧ ¬ (lg_cmp x y).toInt = (0 : Int32).toInt := b93_z
      replace hm_z := rn_iconst (w := 0) (am_cur_of (i := (70, 1, .iconst 0, (0, 0, 0), 0)) (by decide +kernel)) (by decide) hm_z
      replace hm_z := rn_iret (am_cur_of (i := (71, 1, .ireturn, (0, 0, 0), 0)) (by decide +kernel)) hm_z
      obtain ⟨e94_z, e95_z⟩ := hm_z
      rw [e95_z]
      exact nk_r
    · replace b93_z : (lg_cmp x y) = (0 : Int32) ∧ (lg_cmp x y).toInt = (0 : Int32).toInt := b93_z
      replace hm_z := rn_iconst (w := 1) (am_cur_of (i := (66, 1, .iconst 1, (0, 0, 0), 0)) (by decide +kernel)) (by decide) hm_z
      replace hm_z := rn_goto (am_cur_of (i := (67, 3, .goto 4, (25, 0, 0), 0)) (by decide +kernel)) hm_z
      replace hm_z := rn_iret (am_cur_of (i := (71, 1, .ireturn, (0, 0, 0), 0)) (by decide +kernel)) hm_z
      obtain ⟨e96_z, e97_z⟩ := hm_z
      rw [e97_z]
      exact nk_r
  by_cases v98_z : s = 8
  · replace hm_z := rn_swI (off := 71) (a := 26) (am_cur_of (i := (1, 35, .tableswitch 95 5 9 #[35, 47, 59, 71, 83], (0, 0, 0), 0)) (by decide +kernel)) (by rw [v98_z]; decide) (by rw [v98_z]; decide) (by decide +kernel) hm_z
    replace hm_z := rn_lload_n (am_cur_of (i := (72, 1, .lload_n 1, (0, 0, 0), 0)) (by decide +kernel)) g1_z hm_z
    replace hm_z := rn_lload_n (am_cur_of (i := (73, 1, .lload_n 3, (0, 0, 0), 0)) (by decide +kernel)) g3_z hm_z
    replace hm_z := rn_lcmp (w := lg_cmp x y) (am_cur_of (i := (74, 1, .lcmp, (0, 0, 0), 0)) (by decide +kernel)) rfl hm_z
    replace hm_z := rn_if (am_cur_of (i := (75, 3, .ifCond .eq 7, (32, 0, 0), 0)) (by decide +kernel)) hm_z
    rcases hm_z with ⟨b99_z, hm_z⟩ | ⟨b99_z, hm_z⟩
    · replace b99_z : (lg_cmp x y) = (0 : Int32) ∧ (lg_cmp x y).toInt = (0 : Int32).toInt := b99_z
      replace hm_z := rn_iconst (w := 0) (am_cur_of (i := (82, 1, .iconst 0, (0, 0, 0), 0)) (by decide +kernel)) (by decide) hm_z
      replace hm_z := rn_iret (am_cur_of (i := (83, 1, .ireturn, (0, 0, 0), 0)) (by decide +kernel)) hm_z
      obtain ⟨e100_z, e101_z⟩ := hm_z
      rw [e101_z]
      exact nk_r
    · replace b99_z : ¬ (lg_cmp x y) = (0 : Int32) ∧ ¬ (lg_cmp x y).toInt = (0 : Int32).toInt := b99_z
      replace hm_z := rn_iconst (w := 1) (am_cur_of (i := (78, 1, .iconst 1, (0, 0, 0), 0)) (by decide +kernel)) (by decide) hm_z
      replace hm_z := rn_goto (am_cur_of (i := (79, 3, .goto 4, (33, 0, 0), 0)) (by decide +kernel)) hm_z
      replace hm_z := rn_iret (am_cur_of (i := (83, 1, .ireturn, (0, 0, 0), 0)) (by decide +kernel)) hm_z
      obtain ⟨e102_z, e103_z⟩ := hm_z
      rw [e103_z]
      exact nk_r
  by_cases v104_z : s = 9
  · replace hm_z := rn_swI (off := 83) (a := 34) (am_cur_of (i := (1, 35, .tableswitch 95 5 9 #[35, 47, 59, 71, 83], (0, 0, 0), 0)) (by decide +kernel)) (by rw [v104_z]; decide) (by rw [v104_z]; decide) (by decide +kernel) hm_z
    replace hm_z := rn_lload_n (am_cur_of (i := (84, 1, .lload_n 1, (0, 0, 0), 0)) (by decide +kernel)) g1_z hm_z
    replace hm_z := rn_lload_n (am_cur_of (i := (85, 1, .lload_n 3, (0, 0, 0), 0)) (by decide +kernel)) g3_z hm_z
    replace hm_z := rn_lcmp (w := lg_cmp x y) (am_cur_of (i := (86, 1, .lcmp, (0, 0, 0), 0)) (by decide +kernel)) rfl hm_z
    replace hm_z := rn_if (am_cur_of (i := (87, 3, .ifCond .lt 7, (40, 0, 0), 0)) (by decide +kernel)) hm_z
    rcases hm_z with ⟨b105_z, hm_z⟩ | ⟨b105_z, hm_z⟩
    · replace b105_z : (lg_cmp x y).toInt < (0 : Int32).toInt := b105_z
      replace hm_z := rn_iconst (w := 0) (am_cur_of (i := (94, 1, .iconst 0, (0, 0, 0), 0)) (by decide +kernel)) (by decide) hm_z
      replace hm_z := rn_iret (am_cur_of (i := (95, 1, .ireturn, (0, 0, 0), 0)) (by decide +kernel)) hm_z
      obtain ⟨e106_z, e107_z⟩ := hm_z
      rw [e107_z]
      exact nk_r
    · replace b105_z : (0 : Int32).toInt ≤ (lg_cmp x y).toInt := b105_z
      replace hm_z := rn_iconst (w := 1) (am_cur_of (i := (90, 1, .iconst 1, (0, 0, 0), 0)) (by decide +kernel)) (by decide) hm_z
      replace hm_z := rn_goto (am_cur_of (i := (91, 3, .goto 4, (41, 0, 0), 0)) (by decide +kernel)) hm_z
      replace hm_z := rn_iret (am_cur_of (i := (95, 1, .ireturn, (0, 0, 0), 0)) (by decide +kernel)) hm_z
      obtain ⟨e108_z, e109_z⟩ := hm_z
      rw [e109_z]
      exact nk_r
  have hsw : ∀ m, m < 5 → (m = 0 ∨ m = 1 ∨ m = 2 ∨ m = 3 ∨ m = 4 ∨ (#[35, 47, 59, 71, 83] : Array Int)[m]? = some 95) := by decide
  have wv80_z : ¬ s.toInt = 5 := fun q => v80_z (Int32.toInt_inj.mp (q.trans (by decide)))
  have wv86_z : ¬ s.toInt = 6 := fun q => v86_z (Int32.toInt_inj.mp (q.trans (by decide)))
  have wv92_z : ¬ s.toInt = 7 := fun q => v92_z (Int32.toInt_inj.mp (q.trans (by decide)))
  have wv98_z : ¬ s.toInt = 8 := fun q => v98_z (Int32.toInt_inj.mp (q.trans (by decide)))
  have wv104_z : ¬ s.toInt = 9 := fun q => v104_z (Int32.toInt_inj.mp (q.trans (by decide)))
  have hx_z : s.toInt < 5 ∨ 9 < s.toInt ∨ (#[35, 47, 59, 71, 83] : Array Int)[(s.toInt - 5).toNat]? = some 95 := by
    by_cases q1_z : s.toInt < 5
    · exact Or.inl q1_z
    · by_cases q2_z : 9 < s.toInt
      · exact Or.inr (Or.inl q2_z)
      · refine Or.inr (Or.inr ?_)
        rcases hsw (s.toInt - 5).toNat (by omega) with qq | qq | qq | qq | qq | qq <;> first | exact qq | (exfalso; omega)
  replace hm_z := rn_swX (a := 42) (am_cur_of (i := (1, 35, .tableswitch 95 5 9 #[35, 47, 59, 71, 83], (0, 0, 0), 0)) (by decide +kernel)) hx_z (by decide +kernel) hm_z
  replace hm_z := rn_lload_n (am_cur_of (i := (96, 1, .lload_n 1, (0, 0, 0), 0)) (by decide +kernel)) g1_z hm_z
  replace hm_z := rn_lload_n (am_cur_of (i := (97, 1, .lload_n 3, (0, 0, 0), 0)) (by decide +kernel)) g3_z hm_z
  replace hm_z := rn_lcmp (w := lg_cmp x y) (am_cur_of (i := (98, 1, .lcmp, (0, 0, 0), 0)) (by decide +kernel)) rfl hm_z
  replace hm_z := rn_if (am_cur_of (i := (99, 3, .ifCond .le 7, (48, 0, 0), 0)) (by decide +kernel)) hm_z
  rcases hm_z with ⟨b110_z, hm_z⟩ | ⟨b110_z, hm_z⟩
  · replace b110_z : (lg_cmp x y).toInt ≤ (0 : Int32).toInt := b110_z
    replace hm_z := rn_iconst (w := 0) (am_cur_of (i := (106, 1, .iconst 0, (0, 0, 0), 0)) (by decide +kernel)) (by decide) hm_z
    replace hm_z := rn_iret (am_cur_of (i := (107, 1, .ireturn, (0, 0, 0), 0)) (by decide +kernel)) hm_z
    obtain ⟨e111_z, e112_z⟩ := hm_z
    rw [e112_z]
    exact nk_r
  · replace b110_z : (0 : Int32).toInt < (lg_cmp x y).toInt := b110_z
    replace hm_z := rn_iconst (w := 1) (am_cur_of (i := (102, 1, .iconst 1, (0, 0, 0), 0)) (by decide +kernel)) (by decide) hm_z
    replace hm_z := rn_goto (am_cur_of (i := (103, 3, .goto 4, (49, 0, 0), 0)) (by decide +kernel)) hm_z
    replace hm_z := rn_iret (am_cur_of (i := (107, 1, .ireturn, (0, 0, 0), 0)) (by decide +kernel)) hm_z
    obtain ⟨e113_z, e114_z⟩ := hm_z
    rw [e114_z]
    exact nk_r
theorem nq_192_L {r : Option Value} {g' : am_H} {k : Int32}  : ∀ f : Nat, (∀ (ls : am_L) (g : am_H), rn f am_m192 70 ls [] g r g' → nk g g') ∧ (∀ (ls : am_L) (g : am_H), rn f am_m192 80 ls [] g r g' → nk g g') := by
  intro f
  induction f with
  | zero =>
    exact ⟨fun _ _ hm_z => absurd hm_z rn_0, fun _ _ hm_z => absurd hm_z rn_0⟩
  | succ f ih_z =>
    obtain ⟨I70, I80⟩ := ih_z
    have H80 : ∀ (ls : am_L) (g : am_H), rn (f + 1) am_m192 80 ls [] g r g' → nk g g' := by
      intro ls g hm_z
      replace hm_z := rn_lconst (w := 1) (am_cur_of (i := (188, 1, .lconst 1, (0, 0, 0), 0)) (by decide +kernel)) rfl hm_z
      replace hm_z := rn_goto (am_cur_of (i := (189, 3, .goto 4, (83, 0, 0), 0)) (by decide +kernel)) hm_z
      replace hm_z := rn_lret (am_cur_of (i := (193, 1, .lreturn, (0, 0, 0), 0)) (by decide +kernel)) hm_z
      obtain ⟨e115_z, e116_z⟩ := hm_z
      rw [e116_z]
      exact nk_r
    have H70 : ∀ (ls : am_L) (g : am_H), rn (f + 1) am_m192 70 ls [] g r g' → nk g g' := by
      intro ls g hm_z
      replace hm_z := rn_lconst (w := 0) (am_cur_of (i := (173, 1, .lconst 0, (0, 0, 0), 0)) (by decide +kernel)) rfl hm_z
      replace hm_z := rn_lret (am_cur_of (i := (174, 1, .lreturn, (0, 0, 0), 0)) (by decide +kernel)) hm_z
      obtain ⟨e117_z, e118_z⟩ := hm_z
      rw [e118_z]
      exact nk_r
    exact ⟨H70, H80⟩
theorem nq_192 {nst : Nat} {r : Option Value} {g g' : am_H} {k : Int32}  (hm_z : rn nst am_m192 0 (lv_args 0 [.ref 164, .int k]) [] g r g') : nk g g' := by
  have z0_z : (0 : Int32).toInt = 0 := by decide
  have z1_z : (1 : Int32).toInt = 1 := by decide
  have z2_z : (2 : Int32).toInt = 2 := by decide
  have g0_z : am_get (lv_args 0 [.ref 164, .int k]) 0 = some (.ref 164) := rfl
  have g1_z : am_get (lv_args 0 [.ref 164, .int k]) 1 = some (.int k) := rfl
  replace hm_z := rn_aload_n (am_cur_of (i := (0, 1, .aload_n 0, (0, 0, 0), 0)) (by decide +kernel)) g0_z hm_z
  replace hm_z := rn_getR (x := 181) (am_cur_of (i := (1, 3, .getfield 63, (12, 36, 1420), 0)) (by decide +kernel)) (by decide +kernel) hm_z
  replace hm_z := rn_iload_n (am_cur_of (i := (4, 1, .iload_n 1, (0, 0, 0), 0)) (by decide +kernel)) g1_z hm_z
  replace hm_z := rn_iaload (N := 128) (q := k.toNatClampNeg) (v := rg_v g 181 k.toNatClampNeg) (am_cur_of (i := (5, 1, .iaload, (0, 0, 0), 0)) (by decide +kernel)) (by decide +kernel) rfl rfl hm_z
  obtain ⟨p119_z, hm_z⟩ := hm_z
  replace hm_z := rn_if (am_cur_of (i := (6, 3, .ifCond .ne 11, (11, 0, 0), 0)) (by decide +kernel)) hm_z
  rcases hm_z with ⟨b120_z, hm_z⟩ | ⟨b120_z, hm_z⟩
  · replace b120_z : ¬ (rg_v g 181 k.toNatClampNeg) = (0 : Int32) ∧ ¬ (rg_v g 181 k.toNatClampNeg).toInt = (0 : Int32).toInt := b120_z
    replace hm_z := rn_aload_n (am_cur_of (i := (17, 1, .aload_n 0, (0, 0, 0), 0)) (by decide +kernel)) g0_z hm_z
    replace hm_z := rn_getR (x := 181) (am_cur_of (i := (18, 3, .getfield 63, (12, 36, 1420), 0)) (by decide +kernel)) (by decide +kernel) hm_z
    replace hm_z := rn_iload_n (am_cur_of (i := (21, 1, .iload_n 1, (0, 0, 0), 0)) (by decide +kernel)) g1_z hm_z
    replace hm_z := rn_iaload (N := 128) (q := k.toNatClampNeg) (v := rg_v g 181 k.toNatClampNeg) (am_cur_of (i := (22, 1, .iaload, (0, 0, 0), 0)) (by decide +kernel)) (by decide +kernel) rfl rfl hm_z
    obtain ⟨p121_z, hm_z⟩ := hm_z
    replace hm_z := rn_iconst (w := 1) (am_cur_of (i := (23, 1, .iconst 1, (0, 0, 0), 0)) (by decide +kernel)) (by decide) hm_z
    replace hm_z := rn_cmp (am_cur_of (i := (24, 3, .if_icmp .ne 15, (25, 0, 0), 0)) (by decide +kernel)) hm_z
    rcases hm_z with ⟨b122_z, hm_z⟩ | ⟨b122_z, hm_z⟩
    · replace b122_z : ¬ (rg_v g 181 k.toNatClampNeg) = (1 : Int32) ∧ ¬ (rg_v g 181 k.toNatClampNeg).toInt = (1 : Int32).toInt := b122_z
      replace hm_z := rn_aload_n (am_cur_of (i := (39, 1, .aload_n 0, (0, 0, 0), 0)) (by decide +kernel)) g0_z hm_z
      replace hm_z := rn_getR (x := 187) (am_cur_of (i := (40, 3, .getfield 82, (12, 48, 1432), 0)) (by decide +kernel)) (by decide +kernel) hm_z
      replace hm_z := rn_aload_n (am_cur_of (i := (43, 1, .aload_n 0, (0, 0, 0), 0)) (by decide +kernel)) g0_z hm_z
      replace hm_z := rn_getR (x := 182) (am_cur_of (i := (44, 3, .getfield 66, (12, 37, 1421), 0)) (by decide +kernel)) (by decide +kernel) hm_z
      replace hm_z := rn_iload_n (am_cur_of (i := (47, 1, .iload_n 1, (0, 0, 0), 0)) (by decide +kernel)) g1_z hm_z
      replace hm_z := rn_iaload (N := 128) (q := k.toNatClampNeg) (v := rg_v g 182 k.toNatClampNeg) (am_cur_of (i := (48, 1, .iaload, (0, 0, 0), 0)) (by decide +kernel)) (by decide +kernel) rfl rfl hm_z
      obtain ⟨p123_z, hm_z⟩ := hm_z
      replace hm_z := rn_laload (N := 64) (q := (rg_v g 182 k.toNatClampNeg).toNatClampNeg) (v := rg_l g 187 ((rg_v g 182 k.toNatClampNeg).toNatClampNeg)) (am_cur_of (i := (49, 1, .laload, (0, 0, 0), 0)) (by decide +kernel)) (by decide +kernel) rfl rfl hm_z
      obtain ⟨p124_z, hm_z⟩ := hm_z
      replace hm_z := rn_lstore_n (am_cur_of (i := (50, 1, .lstore_n 2, (0, 0, 0), 0)) (by decide +kernel)) hm_z
      obtain ⟨_, s125_z, s126_z, g2_z, hm_z⟩ := hm_z
      replace g0_z := s125_z 0 _ (by decide) (by decide) rfl g0_z
      replace g1_z := s125_z 1 _ (by decide) (by decide) rfl g1_z
      clear s125_z s126_z
      replace hm_z := rn_aload_n (am_cur_of (i := (51, 1, .aload_n 0, (0, 0, 0), 0)) (by decide +kernel)) g0_z hm_z
      replace hm_z := rn_getR (x := 181) (am_cur_of (i := (52, 3, .getfield 63, (12, 36, 1420), 0)) (by decide +kernel)) (by decide +kernel) hm_z
      replace hm_z := rn_iload_n (am_cur_of (i := (55, 1, .iload_n 1, (0, 0, 0), 0)) (by decide +kernel)) g1_z hm_z
      replace hm_z := rn_iaload (N := 128) (q := k.toNatClampNeg) (v := rg_v g 181 k.toNatClampNeg) (am_cur_of (i := (56, 1, .iaload, (0, 0, 0), 0)) (by decide +kernel)) (by decide +kernel) rfl rfl hm_z
      obtain ⟨p127_z, hm_z⟩ := hm_z
      replace hm_z := rn_iconst (w := 2) (am_cur_of (i := (57, 1, .iconst 2, (0, 0, 0), 0)) (by decide +kernel)) (by decide) hm_z
      replace hm_z := rn_cmp (am_cur_of (i := (58, 3, .if_icmp .ne 15, (47, 0, 0), 0)) (by decide +kernel)) hm_z
      rcases hm_z with ⟨b128_z, hm_z⟩ | ⟨b128_z, hm_z⟩
      · replace b128_z : ¬ (rg_v g 181 k.toNatClampNeg) = (2 : Int32) ∧ ¬ (rg_v g 181 k.toNatClampNeg).toInt = (2 : Int32).toInt := b128_z
        replace hm_z := rn_aload_n (am_cur_of (i := (73, 1, .aload_n 0, (0, 0, 0), 0)) (by decide +kernel)) g0_z hm_z
        replace hm_z := rn_getR (x := 187) (am_cur_of (i := (74, 3, .getfield 82, (12, 48, 1432), 0)) (by decide +kernel)) (by decide +kernel) hm_z
        replace hm_z := rn_aload_n (am_cur_of (i := (77, 1, .aload_n 0, (0, 0, 0), 0)) (by decide +kernel)) g0_z hm_z
        replace hm_z := rn_getR (x := 183) (am_cur_of (i := (78, 3, .getfield 69, (12, 38, 1422), 0)) (by decide +kernel)) (by decide +kernel) hm_z
        replace hm_z := rn_iload_n (am_cur_of (i := (81, 1, .iload_n 1, (0, 0, 0), 0)) (by decide +kernel)) g1_z hm_z
        replace hm_z := rn_iaload (N := 128) (q := k.toNatClampNeg) (v := rg_v g 183 k.toNatClampNeg) (am_cur_of (i := (82, 1, .iaload, (0, 0, 0), 0)) (by decide +kernel)) (by decide +kernel) rfl rfl hm_z
        obtain ⟨p129_z, hm_z⟩ := hm_z
        replace hm_z := rn_laload (N := 64) (q := (rg_v g 183 k.toNatClampNeg).toNatClampNeg) (v := rg_l g 187 ((rg_v g 183 k.toNatClampNeg).toNatClampNeg)) (am_cur_of (i := (83, 1, .laload, (0, 0, 0), 0)) (by decide +kernel)) (by decide +kernel) rfl rfl hm_z
        obtain ⟨p130_z, hm_z⟩ := hm_z
        replace hm_z := rn_lstore (am_cur_of (i := (84, 2, .lstore 4, (0, 0, 0), 0)) (by decide +kernel)) hm_z
        obtain ⟨_, s131_z, s132_z, g4_z, hm_z⟩ := hm_z
        replace g0_z := s131_z 0 _ (by decide) (by decide) rfl g0_z
        replace g1_z := s131_z 1 _ (by decide) (by decide) rfl g1_z
        replace g2_z := s132_z 2 _ (by decide) (by decide) (by decide) g2_z
        clear s131_z s132_z
        replace hm_z := rn_aload_n (am_cur_of (i := (86, 1, .aload_n 0, (0, 0, 0), 0)) (by decide +kernel)) g0_z hm_z
        replace hm_z := rn_getR (x := 181) (am_cur_of (i := (87, 3, .getfield 63, (12, 36, 1420), 0)) (by decide +kernel)) (by decide +kernel) hm_z
        replace hm_z := rn_iload_n (am_cur_of (i := (90, 1, .iload_n 1, (0, 0, 0), 0)) (by decide +kernel)) g1_z hm_z
        replace hm_z := rn_iaload (N := 128) (q := k.toNatClampNeg) (v := rg_v g 181 k.toNatClampNeg) (am_cur_of (i := (91, 1, .iaload, (0, 0, 0), 0)) (by decide +kernel)) (by decide +kernel) rfl rfl hm_z
        obtain ⟨p133_z, hm_z⟩ := hm_z
        by_cases v134_z : (rg_v g 181 k.toNatClampNeg) = 3
        · replace hm_z := rn_swI (off := 64) (a := 60) (am_cur_of (i := (92, 64, .tableswitch 167 3 14 #[64, 83, 167, 167, 167, 167, 167, 167, 102, 111, 120, 128], (0, 0, 0), 0)) (by decide +kernel)) (by rw [v134_z]; decide) (by rw [v134_z]; decide) (by decide +kernel) hm_z
          replace hm_z := rn_lload_n (am_cur_of (i := (156, 1, .lload_n 2, (0, 0, 0), 0)) (by decide +kernel)) g2_z hm_z
          replace hm_z := rn_lconst (w := 0) (am_cur_of (i := (157, 1, .lconst 0, (0, 0, 0), 0)) (by decide +kernel)) rfl hm_z
          replace hm_z := rn_lcmp (w := lg_cmp (rg_l g 187 ((rg_v g 182 k.toNatClampNeg).toNatClampNeg)) 0) (am_cur_of (i := (158, 1, .lcmp, (0, 0, 0), 0)) (by decide +kernel)) rfl hm_z
          replace hm_z := rn_if (am_cur_of (i := (159, 3, .ifCond .eq 14, (70, 0, 0), 0)) (by decide +kernel)) hm_z
          rcases hm_z with ⟨b135_z, hm_z⟩ | ⟨b135_z, hm_z⟩
          · replace b135_z : (lg_cmp (rg_l g 187 ((rg_v g 182 k.toNatClampNeg).toNatClampNeg)) 0) = (0 : Int32) ∧ (lg_cmp (rg_l g 187 ((rg_v g 182 k.toNatClampNeg).toNatClampNeg)) 0).toInt = (0 : Int32).toInt := b135_z
            have H70 := (nq_192_L (r := r) (g' := g') (k := k)  nst).1
            exact nk_t nk_r (H70 _ _ hm_z)
          · replace b135_z : ¬ (lg_cmp (rg_l g 187 ((rg_v g 182 k.toNatClampNeg).toNatClampNeg)) 0) = (0 : Int32) ∧ ¬ (lg_cmp (rg_l g 187 ((rg_v g 182 k.toNatClampNeg).toNatClampNeg)) 0).toInt = (0 : Int32).toInt := b135_z
            replace hm_z := rn_lload (am_cur_of (i := (162, 2, .lload 4, (0, 0, 0), 0)) (by decide +kernel)) g4_z hm_z
            replace hm_z := rn_lconst (w := 0) (am_cur_of (i := (164, 1, .lconst 0, (0, 0, 0), 0)) (by decide +kernel)) rfl hm_z
            replace hm_z := rn_lcmp (w := lg_cmp (rg_l g 187 ((rg_v g 183 k.toNatClampNeg).toNatClampNeg)) 0) (am_cur_of (i := (165, 1, .lcmp, (0, 0, 0), 0)) (by decide +kernel)) rfl hm_z
            replace hm_z := rn_if (am_cur_of (i := (166, 3, .ifCond .eq 7, (70, 0, 0), 0)) (by decide +kernel)) hm_z
            rcases hm_z with ⟨b136_z, hm_z⟩ | ⟨b136_z, hm_z⟩
            · replace b136_z : (lg_cmp (rg_l g 187 ((rg_v g 183 k.toNatClampNeg).toNatClampNeg)) 0) = (0 : Int32) ∧ (lg_cmp (rg_l g 187 ((rg_v g 183 k.toNatClampNeg).toNatClampNeg)) 0).toInt = (0 : Int32).toInt := b136_z
              have H70 := (nq_192_L (r := r) (g' := g') (k := k)  nst).1
              exact nk_t nk_r (H70 _ _ hm_z)
            · replace b136_z : ¬ (lg_cmp (rg_l g 187 ((rg_v g 183 k.toNatClampNeg).toNatClampNeg)) 0) = (0 : Int32) ∧ ¬ (lg_cmp (rg_l g 187 ((rg_v g 183 k.toNatClampNeg).toNatClampNeg)) 0).toInt = (0 : Int32).toInt := b136_z
              replace hm_z := rn_lconst (w := 1) (am_cur_of (i := (169, 1, .lconst 1, (0, 0, 0), 0)) (by decide +kernel)) rfl hm_z
              replace hm_z := rn_goto (am_cur_of (i := (170, 3, .goto 4, (71, 0, 0), 0)) (by decide +kernel)) hm_z
              replace hm_z := rn_lret (am_cur_of (i := (174, 1, .lreturn, (0, 0, 0), 0)) (by decide +kernel)) hm_z
              obtain ⟨e137_z, e138_z⟩ := hm_z
              rw [e138_z]
              exact nk_r
        by_cases v139_z : (rg_v g 181 k.toNatClampNeg) = 4
        · replace hm_z := rn_swI (off := 83) (a := 72) (am_cur_of (i := (92, 64, .tableswitch 167 3 14 #[64, 83, 167, 167, 167, 167, 167, 167, 102, 111, 120, 128], (0, 0, 0), 0)) (by decide +kernel)) (by rw [v139_z]; decide) (by rw [v139_z]; decide) (by decide +kernel) hm_z
          replace hm_z := rn_lload_n (am_cur_of (i := (175, 1, .lload_n 2, (0, 0, 0), 0)) (by decide +kernel)) g2_z hm_z
          replace hm_z := rn_lconst (w := 0) (am_cur_of (i := (176, 1, .lconst 0, (0, 0, 0), 0)) (by decide +kernel)) rfl hm_z
          replace hm_z := rn_lcmp (w := lg_cmp (rg_l g 187 ((rg_v g 182 k.toNatClampNeg).toNatClampNeg)) 0) (am_cur_of (i := (177, 1, .lcmp, (0, 0, 0), 0)) (by decide +kernel)) rfl hm_z
          replace hm_z := rn_if (am_cur_of (i := (178, 3, .ifCond .ne 10, (80, 0, 0), 0)) (by decide +kernel)) hm_z
          rcases hm_z with ⟨b140_z, hm_z⟩ | ⟨b140_z, hm_z⟩
          · replace b140_z : ¬ (lg_cmp (rg_l g 187 ((rg_v g 182 k.toNatClampNeg).toNatClampNeg)) 0) = (0 : Int32) ∧ ¬ (lg_cmp (rg_l g 187 ((rg_v g 182 k.toNatClampNeg).toNatClampNeg)) 0).toInt = (0 : Int32).toInt := b140_z
            have H80 := (nq_192_L (r := r) (g' := g') (k := k)  nst).2
            exact nk_t nk_r (H80 _ _ hm_z)
          · replace b140_z : (lg_cmp (rg_l g 187 ((rg_v g 182 k.toNatClampNeg).toNatClampNeg)) 0) = (0 : Int32) ∧ (lg_cmp (rg_l g 187 ((rg_v g 182 k.toNatClampNeg).toNatClampNeg)) 0).toInt = (0 : Int32).toInt := b140_z
            replace hm_z := rn_lload (am_cur_of (i := (181, 2, .lload 4, (0, 0, 0), 0)) (by decide +kernel)) g4_z hm_z
            replace hm_z := rn_lconst (w := 0) (am_cur_of (i := (183, 1, .lconst 0, (0, 0, 0), 0)) (by decide +kernel)) rfl hm_z
            replace hm_z := rn_lcmp (w := lg_cmp (rg_l g 187 ((rg_v g 183 k.toNatClampNeg).toNatClampNeg)) 0) (am_cur_of (i := (184, 1, .lcmp, (0, 0, 0), 0)) (by decide +kernel)) rfl hm_z
            replace hm_z := rn_if (am_cur_of (i := (185, 3, .ifCond .eq 7, (82, 0, 0), 0)) (by decide +kernel)) hm_z
            rcases hm_z with ⟨b141_z, hm_z⟩ | ⟨b141_z, hm_z⟩
            · replace b141_z : (lg_cmp (rg_l g 187 ((rg_v g 183 k.toNatClampNeg).toNatClampNeg)) 0) = (0 : Int32) ∧ (lg_cmp (rg_l g 187 ((rg_v g 183 k.toNatClampNeg).toNatClampNeg)) 0).toInt = (0 : Int32).toInt := b141_z
              replace hm_z := rn_lconst (w := 0) (am_cur_of (i := (192, 1, .lconst 0, (0, 0, 0), 0)) (by decide +kernel)) rfl hm_z
              replace hm_z := rn_lret (am_cur_of (i := (193, 1, .lreturn, (0, 0, 0), 0)) (by decide +kernel)) hm_z
              obtain ⟨e142_z, e143_z⟩ := hm_z
              rw [e143_z]
              exact nk_r
            · replace b141_z : ¬ (lg_cmp (rg_l g 187 ((rg_v g 183 k.toNatClampNeg).toNatClampNeg)) 0) = (0 : Int32) ∧ ¬ (lg_cmp (rg_l g 187 ((rg_v g 183 k.toNatClampNeg).toNatClampNeg)) 0).toInt = (0 : Int32).toInt := b141_z
              have H80 := (nq_192_L (r := r) (g' := g') (k := k)  nst).2
              exact nk_t nk_r (H80 _ _ hm_z)
        by_cases v144_z : (rg_v g 181 k.toNatClampNeg) = 11
        · replace hm_z := rn_swI (off := 102) (a := 84) (am_cur_of (i := (92, 64, .tableswitch 167 3 14 #[64, 83, 167, 167, 167, 167, 167, 167, 102, 111, 120, 128], (0, 0, 0), 0)) (by decide +kernel)) (by rw [v144_z]; decide) (by rw [v144_z]; decide) (by decide +kernel) hm_z
          replace hm_z := rn_aload_n (am_cur_of (i := (194, 1, .aload_n 0, (0, 0, 0), 0)) (by decide +kernel)) g0_z hm_z
          replace hm_z := rn_lload_n (am_cur_of (i := (195, 1, .lload_n 2, (0, 0, 0), 0)) (by decide +kernel)) g2_z hm_z
          replace hm_z := rn_lload (am_cur_of (i := (196, 2, .lload 4, (0, 0, 0), 0)) (by decide +kernel)) g4_z hm_z
          replace hm_z := rn_ladd (w := (rg_l g 187 ((rg_v g 182 k.toNatClampNeg).toNatClampNeg)) + (rg_l g 187 ((rg_v g 183 k.toNatClampNeg).toNatClampNeg))) (am_cur_of (i := (198, 1, .ladd, (0, 0, 0), 0)) (by decide +kernel)) rfl hm_z
          replace hm_z := rn_callV (M' := am_m193) (o := 164) (ar := [.long ((rg_l g 187 ((rg_v g 182 k.toNatClampNeg).toNatClampNeg)) + (rg_l g 187 ((rg_v g 183 k.toNatClampNeg).toNatClampNeg)))]) (rest := []) (L := lv_args 0 [.ref 164, .long ((rg_l g 187 ((rg_v g 182 k.toNatClampNeg).toNatClampNeg)) + (rg_l g 187 ((rg_v g 183 k.toNatClampNeg).toNatClampNeg)))]) (am_cur_of (i := (199, 3, .invokevirtual 334, (193, 1803, 3), 0)) (by decide +kernel)) rfl rfl rfl rfl hm_z
          obtain ⟨r145_z, h146_z, q147_z, hm_z⟩ := hm_z
          have k148_z := nq_193 q147_z
          obtain ⟨v149_z, rfl⟩ := fk_long (M := am_m193) rfl q147_z
          replace hm_z : rn _ _ _ _ [.long v149_z] _ _ _ := hm_z
          replace hm_z := rn_lret (am_cur_of (i := (202, 1, .lreturn, (0, 0, 0), 0)) (by decide +kernel)) hm_z
          obtain ⟨e150_z, e151_z⟩ := hm_z
          rw [e151_z]
          exact (nk_t nk_r k148_z)
        by_cases v152_z : (rg_v g 181 k.toNatClampNeg) = 12
        · replace hm_z := rn_swI (off := 111) (a := 90) (am_cur_of (i := (92, 64, .tableswitch 167 3 14 #[64, 83, 167, 167, 167, 167, 167, 167, 102, 111, 120, 128], (0, 0, 0), 0)) (by decide +kernel)) (by rw [v152_z]; decide) (by rw [v152_z]; decide) (by decide +kernel) hm_z
          replace hm_z := rn_aload_n (am_cur_of (i := (203, 1, .aload_n 0, (0, 0, 0), 0)) (by decide +kernel)) g0_z hm_z
          replace hm_z := rn_lload_n (am_cur_of (i := (204, 1, .lload_n 2, (0, 0, 0), 0)) (by decide +kernel)) g2_z hm_z
          replace hm_z := rn_lload (am_cur_of (i := (205, 2, .lload 4, (0, 0, 0), 0)) (by decide +kernel)) g4_z hm_z
          replace hm_z := rn_lsub (w := (rg_l g 187 ((rg_v g 182 k.toNatClampNeg).toNatClampNeg)) - (rg_l g 187 ((rg_v g 183 k.toNatClampNeg).toNatClampNeg))) (am_cur_of (i := (207, 1, .lsub, (0, 0, 0), 0)) (by decide +kernel)) rfl hm_z
          replace hm_z := rn_callV (M' := am_m193) (o := 164) (ar := [.long ((rg_l g 187 ((rg_v g 182 k.toNatClampNeg).toNatClampNeg)) - (rg_l g 187 ((rg_v g 183 k.toNatClampNeg).toNatClampNeg)))]) (rest := []) (L := lv_args 0 [.ref 164, .long ((rg_l g 187 ((rg_v g 182 k.toNatClampNeg).toNatClampNeg)) - (rg_l g 187 ((rg_v g 183 k.toNatClampNeg).toNatClampNeg)))]) (am_cur_of (i := (208, 3, .invokevirtual 334, (193, 1803, 3), 0)) (by decide +kernel)) rfl rfl rfl rfl hm_z
          obtain ⟨r153_z, h154_z, q155_z, hm_z⟩ := hm_z
          have k156_z := nq_193 q155_z
          obtain ⟨v157_z, rfl⟩ := fk_long (M := am_m193) rfl q155_z
          replace hm_z : rn _ _ _ _ [.long v157_z] _ _ _ := hm_z
          replace hm_z := rn_lret (am_cur_of (i := (211, 1, .lreturn, (0, 0, 0), 0)) (by decide +kernel)) hm_z
          obtain ⟨e158_z, e159_z⟩ := hm_z
          rw [e159_z]
          exact (nk_t nk_r k156_z)
        by_cases v160_z : (rg_v g 181 k.toNatClampNeg) = 13
        · replace hm_z := rn_swI (off := 120) (a := 96) (am_cur_of (i := (92, 64, .tableswitch 167 3 14 #[64, 83, 167, 167, 167, 167, 167, 167, 102, 111, 120, 128], (0, 0, 0), 0)) (by decide +kernel)) (by rw [v160_z]; decide) (by rw [v160_z]; decide) (by decide +kernel) hm_z
          replace hm_z := rn_aload_n (am_cur_of (i := (212, 1, .aload_n 0, (0, 0, 0), 0)) (by decide +kernel)) g0_z hm_z
          replace hm_z := rn_lload_n (am_cur_of (i := (213, 1, .lload_n 2, (0, 0, 0), 0)) (by decide +kernel)) g2_z hm_z
          replace hm_z := rn_lload (am_cur_of (i := (214, 2, .lload 4, (0, 0, 0), 0)) (by decide +kernel)) g4_z hm_z
          replace hm_z := rn_callV (M' := am_m194) (o := 164) (ar := [.long (rg_l g 187 ((rg_v g 183 k.toNatClampNeg).toNatClampNeg)), .long (rg_l g 187 ((rg_v g 182 k.toNatClampNeg).toNatClampNeg))]) (rest := []) (L := lv_args 0 [.ref 164, .long (rg_l g 187 ((rg_v g 182 k.toNatClampNeg).toNatClampNeg)), .long (rg_l g 187 ((rg_v g 183 k.toNatClampNeg).toNatClampNeg))]) (am_cur_of (i := (216, 3, .invokevirtual 338, (194, 1809, 3), 0)) (by decide +kernel)) rfl rfl rfl rfl hm_z
          obtain ⟨r161_z, h162_z, q163_z, hm_z⟩ := hm_z
          have k164_z := nq_194 q163_z
          obtain ⟨v165_z, rfl⟩ := fk_long (M := am_m194) rfl q163_z
          replace hm_z : rn _ _ _ _ [.long v165_z] _ _ _ := hm_z
          replace hm_z := rn_lret (am_cur_of (i := (219, 1, .lreturn, (0, 0, 0), 0)) (by decide +kernel)) hm_z
          obtain ⟨e166_z, e167_z⟩ := hm_z
          rw [e167_z]
          exact (nk_t nk_r k164_z)
        by_cases v168_z : (rg_v g 181 k.toNatClampNeg) = 14
        · replace hm_z := rn_swI (off := 128) (a := 101) (am_cur_of (i := (92, 64, .tableswitch 167 3 14 #[64, 83, 167, 167, 167, 167, 167, 167, 102, 111, 120, 128], (0, 0, 0), 0)) (by decide +kernel)) (by rw [v168_z]; decide) (by rw [v168_z]; decide) (by decide +kernel) hm_z
          replace hm_z := rn_aload_n (am_cur_of (i := (220, 1, .aload_n 0, (0, 0, 0), 0)) (by decide +kernel)) g0_z hm_z
          replace hm_z := rn_aload_n (am_cur_of (i := (221, 1, .aload_n 0, (0, 0, 0), 0)) (by decide +kernel)) g0_z hm_z
          replace hm_z := rn_getI (v := rg_v g 164 49) (am_cur_of (i := (222, 3, .getfield 327, (12, 49, 1433), 0)) (by decide +kernel)) (by decide +kernel) rfl hm_z
          replace hm_z := rn_if (am_cur_of (i := (225, 3, .ifCond .ne 10, (109, 0, 0), 0)) (by decide +kernel)) hm_z
          rcases hm_z with ⟨b169_z, hm_z⟩ | ⟨b169_z, hm_z⟩
          · replace b169_z : ¬ (rg_v g 164 49) = (0 : Int32) ∧ ¬ (rg_v g 164 49).toInt = (0 : Int32).toInt := b169_z
            replace hm_z := rn_iconst (w := 1) (am_cur_of (i := (235, 1, .iconst 1, (0, 0, 0), 0)) (by decide +kernel)) (by decide) hm_z
            replace hm_z := rn_goto (am_cur_of (i := (236, 3, .goto 4, (112, 0, 0), 0)) (by decide +kernel)) hm_z
            replace hm_z := rn_put (am_cur_of (i := (240, 3, .putfield 327, (12, 49, 1433), 0)) (by decide +kernel)) (by decide +kernel) hm_z
            replace hm_z := rn_aload_n (am_cur_of (i := (243, 1, .aload_n 0, (0, 0, 0), 0)) (by decide +kernel)) g0_z hm_z
            replace hm_z := rn_getI (v := 1) (am_cur_of (i := (244, 3, .getfield 327, (12, 49, 1433), 0)) (by decide +kernel)) (by decide +kernel) (show rg_v (am_up g 164 49 (.int 1)) 164 49 = 1 from rfl) hm_z
            replace hm_z := rn_ifF (am_cur_of (i := (247, 3, .ifCond .eq 7, (118, 0, 0), 0)) (by decide +kernel)) (by decide) hm_z
            replace hm_z := rn_lconst (w := 0) (am_cur_of (i := (250, 1, .lconst 0, (0, 0, 0), 0)) (by decide +kernel)) rfl hm_z
            replace hm_z := rn_goto (am_cur_of (i := (251, 3, .goto 7, (121, 0, 0), 0)) (by decide +kernel)) hm_z
            replace hm_z := rn_lret (am_cur_of (i := (258, 1, .lreturn, (0, 0, 0), 0)) (by decide +kernel)) hm_z
            obtain ⟨e170_z, e171_z⟩ := hm_z
            rw [e171_z]
            exact (nk_u (by decide) nk_r)
          · replace b169_z : (rg_v g 164 49) = (0 : Int32) ∧ (rg_v g 164 49).toInt = (0 : Int32).toInt := b169_z
            replace hm_z := rn_lload (am_cur_of (i := (228, 2, .lload 4, (0, 0, 0), 0)) (by decide +kernel)) g4_z hm_z
            replace hm_z := rn_lconst (w := 0) (am_cur_of (i := (230, 1, .lconst 0, (0, 0, 0), 0)) (by decide +kernel)) rfl hm_z
            replace hm_z := rn_lcmp (w := lg_cmp (rg_l g 187 ((rg_v g 183 k.toNatClampNeg).toNatClampNeg)) 0) (am_cur_of (i := (231, 1, .lcmp, (0, 0, 0), 0)) (by decide +kernel)) rfl hm_z
            replace hm_z := rn_if (am_cur_of (i := (232, 3, .ifCond .ne 7, (111, 0, 0), 0)) (by decide +kernel)) hm_z
            rcases hm_z with ⟨b172_z, hm_z⟩ | ⟨b172_z, hm_z⟩
            · replace b172_z : ¬ (lg_cmp (rg_l g 187 ((rg_v g 183 k.toNatClampNeg).toNatClampNeg)) 0) = (0 : Int32) ∧ ¬ (lg_cmp (rg_l g 187 ((rg_v g 183 k.toNatClampNeg).toNatClampNeg)) 0).toInt = (0 : Int32).toInt := b172_z
              replace hm_z := rn_iconst (w := 0) (am_cur_of (i := (239, 1, .iconst 0, (0, 0, 0), 0)) (by decide +kernel)) (by decide) hm_z
              replace hm_z := rn_put (am_cur_of (i := (240, 3, .putfield 327, (12, 49, 1433), 0)) (by decide +kernel)) (by decide +kernel) hm_z
              replace hm_z := rn_aload_n (am_cur_of (i := (243, 1, .aload_n 0, (0, 0, 0), 0)) (by decide +kernel)) g0_z hm_z
              replace hm_z := rn_getI (v := 0) (am_cur_of (i := (244, 3, .getfield 327, (12, 49, 1433), 0)) (by decide +kernel)) (by decide +kernel) (show rg_v (am_up g 164 49 (.int 0)) 164 49 = 0 from rfl) hm_z
              replace hm_z := rn_ifT (am_cur_of (i := (247, 3, .ifCond .eq 7, (118, 0, 0), 0)) (by decide +kernel)) (by decide) hm_z
              replace hm_z := rn_lload_n (am_cur_of (i := (254, 1, .lload_n 2, (0, 0, 0), 0)) (by decide +kernel)) g2_z hm_z
              replace hm_z := rn_lload (am_cur_of (i := (255, 2, .lload 4, (0, 0, 0), 0)) (by decide +kernel)) g4_z hm_z
              replace hm_z := rn_ldiv (w := (rg_l g 187 ((rg_v g 182 k.toNatClampNeg).toNatClampNeg)) / (rg_l g 187 ((rg_v g 183 k.toNatClampNeg).toNatClampNeg))) (am_cur_of (i := (257, 1, .ldiv, (0, 0, 0), 0)) (by decide +kernel)) rfl hm_z
              obtain ⟨d173_z, hm_z⟩ := hm_z
              replace hm_z := rn_lret (am_cur_of (i := (258, 1, .lreturn, (0, 0, 0), 0)) (by decide +kernel)) hm_z
              obtain ⟨e174_z, e175_z⟩ := hm_z
              rw [e175_z]
              exact (nk_u (by decide) nk_r)
            · replace b172_z : (lg_cmp (rg_l g 187 ((rg_v g 183 k.toNatClampNeg).toNatClampNeg)) 0) = (0 : Int32) ∧ (lg_cmp (rg_l g 187 ((rg_v g 183 k.toNatClampNeg).toNatClampNeg)) 0).toInt = (0 : Int32).toInt := b172_z
              replace hm_z := rn_iconst (w := 1) (am_cur_of (i := (235, 1, .iconst 1, (0, 0, 0), 0)) (by decide +kernel)) (by decide) hm_z
              replace hm_z := rn_goto (am_cur_of (i := (236, 3, .goto 4, (112, 0, 0), 0)) (by decide +kernel)) hm_z
              replace hm_z := rn_put (am_cur_of (i := (240, 3, .putfield 327, (12, 49, 1433), 0)) (by decide +kernel)) (by decide +kernel) hm_z
              replace hm_z := rn_aload_n (am_cur_of (i := (243, 1, .aload_n 0, (0, 0, 0), 0)) (by decide +kernel)) g0_z hm_z
              replace hm_z := rn_getI (v := 1) (am_cur_of (i := (244, 3, .getfield 327, (12, 49, 1433), 0)) (by decide +kernel)) (by decide +kernel) (show rg_v (am_up g 164 49 (.int 1)) 164 49 = 1 from rfl) hm_z
              replace hm_z := rn_ifF (am_cur_of (i := (247, 3, .ifCond .eq 7, (118, 0, 0), 0)) (by decide +kernel)) (by decide) hm_z
              replace hm_z := rn_lconst (w := 0) (am_cur_of (i := (250, 1, .lconst 0, (0, 0, 0), 0)) (by decide +kernel)) rfl hm_z
              replace hm_z := rn_goto (am_cur_of (i := (251, 3, .goto 7, (121, 0, 0), 0)) (by decide +kernel)) hm_z
              replace hm_z := rn_lret (am_cur_of (i := (258, 1, .lreturn, (0, 0, 0), 0)) (by decide +kernel)) hm_z
              obtain ⟨e176_z, e177_z⟩ := hm_z
              rw [e177_z]
              exact (nk_u (by decide) nk_r)
        have hsw : ∀ m, m < 12 → (m = 0 ∨ m = 1 ∨ m = 8 ∨ m = 9 ∨ m = 10 ∨ m = 11 ∨ (#[64, 83, 167, 167, 167, 167, 167, 167, 102, 111, 120, 128] : Array Int)[m]? = some 167) := by decide
        have wv134_z : ¬ (rg_v g 181 k.toNatClampNeg).toInt = 3 := fun q => v134_z (Int32.toInt_inj.mp (q.trans (by decide)))
        have wv139_z : ¬ (rg_v g 181 k.toNatClampNeg).toInt = 4 := fun q => v139_z (Int32.toInt_inj.mp (q.trans (by decide)))
        have wv144_z : ¬ (rg_v g 181 k.toNatClampNeg).toInt = 11 := fun q => v144_z (Int32.toInt_inj.mp (q.trans (by decide)))
        have wv152_z : ¬ (rg_v g 181 k.toNatClampNeg).toInt = 12 := fun q => v152_z (Int32.toInt_inj.mp (q.trans (by decide)))
        have wv160_z : ¬ (rg_v g 181 k.toNatClampNeg).toInt = 13 := fun q => v160_z (Int32.toInt_inj.mp (q.trans (by decide)))
        have wv168_z : ¬ (rg_v g 181 k.toNatClampNeg).toInt = 14 := fun q => v168_z (Int32.toInt_inj.mp (q.trans (by decide)))
        have hx_z : (rg_v g 181 k.toNatClampNeg).toInt < 3 ∨ 14 < (rg_v g 181 k.toNatClampNeg).toInt ∨ (#[64, 83, 167, 167, 167, 167, 167, 167, 102, 111, 120, 128] : Array Int)[((rg_v g 181 k.toNatClampNeg).toInt - 3).toNat]? = some 167 := by
          by_cases q1_z : (rg_v g 181 k.toNatClampNeg).toInt < 3
          · exact Or.inl q1_z
          · by_cases q2_z : 14 < (rg_v g 181 k.toNatClampNeg).toInt
            · exact Or.inr (Or.inl q2_z)
            · refine Or.inr (Or.inr ?_)
              rcases hsw ((rg_v g 181 k.toNatClampNeg).toInt - 3).toNat (by omega) with qq | qq | qq | qq | qq | qq | qq <;> first | exact qq | (exfalso; omega)
        replace hm_z := rn_swX (a := 122) (am_cur_of (i := (92, 64, .tableswitch 167 3 14 #[64, 83, 167, 167, 167, 167, 167, 167, 102, 111, 120, 128], (0, 0, 0), 0)) (by decide +kernel)) hx_z (by decide +kernel) hm_z
        replace hm_z := rn_aload_n (am_cur_of (i := (259, 1, .aload_n 0, (0, 0, 0), 0)) (by decide +kernel)) g0_z hm_z
        replace hm_z := rn_getR (x := 181) (am_cur_of (i := (260, 3, .getfield 63, (12, 36, 1420), 0)) (by decide +kernel)) (by decide +kernel) hm_z
        replace hm_z := rn_iload_n (am_cur_of (i := (263, 1, .iload_n 1, (0, 0, 0), 0)) (by decide +kernel)) g1_z hm_z
        replace hm_z := rn_iaload (N := 128) (q := k.toNatClampNeg) (v := rg_v g 181 k.toNatClampNeg) (am_cur_of (i := (264, 1, .iaload, (0, 0, 0), 0)) (by decide +kernel)) (by decide +kernel) rfl rfl hm_z
        obtain ⟨p178_z, hm_z⟩ := hm_z
        replace hm_z := rn_lload_n (am_cur_of (i := (265, 1, .lload_n 2, (0, 0, 0), 0)) (by decide +kernel)) g2_z hm_z
        replace hm_z := rn_lload (am_cur_of (i := (266, 2, .lload 4, (0, 0, 0), 0)) (by decide +kernel)) g4_z hm_z
        replace hm_z := rn_callS (M' := am_m195) (ar := [.long (rg_l g 187 ((rg_v g 183 k.toNatClampNeg).toNatClampNeg)), .long (rg_l g 187 ((rg_v g 182 k.toNatClampNeg).toNatClampNeg)), .int (rg_v g 181 k.toNatClampNeg)]) (rest := []) (L := lv_args 0 [.int (rg_v g 181 k.toNatClampNeg), .long (rg_l g 187 ((rg_v g 182 k.toNatClampNeg).toNatClampNeg)), .long (rg_l g 187 ((rg_v g 183 k.toNatClampNeg).toNatClampNeg))]) (am_cur_of (i := (268, 3, .invokestatic 342, (195, 1813, 3), 0)) (by decide +kernel)) rfl rfl rfl rfl hm_z
        obtain ⟨r179_z, h180_z, q181_z, hm_z⟩ := hm_z
        have k182_z := nq_195 q181_z
        obtain ⟨v183_z, rfl⟩ := rn_ret (M := am_m195) rfl (by decide) q181_z
        replace hm_z : rn _ _ _ _ [.int v183_z] _ _ _ := hm_z
        replace hm_z := rn_if (am_cur_of (i := (271, 3, .ifCond .eq 7, (132, 0, 0), 0)) (by decide +kernel)) hm_z
        rcases hm_z with ⟨b184_z, hm_z⟩ | ⟨b184_z, hm_z⟩
        · replace b184_z : v183_z = (0 : Int32) ∧ v183_z.toInt = (0 : Int32).toInt := b184_z
          replace hm_z := rn_lconst (w := 0) (am_cur_of (i := (278, 1, .lconst 0, (0, 0, 0), 0)) (by decide +kernel)) rfl hm_z
          replace hm_z := rn_lret (am_cur_of (i := (279, 1, .lreturn, (0, 0, 0), 0)) (by decide +kernel)) hm_z
          obtain ⟨e185_z, e186_z⟩ := hm_z
          rw [e186_z]
          exact (nk_t nk_r k182_z)
        · replace b184_z : ¬ v183_z = (0 : Int32) ∧ ¬ v183_z.toInt = (0 : Int32).toInt := b184_z
          replace hm_z := rn_lconst (w := 1) (am_cur_of (i := (274, 1, .lconst 1, (0, 0, 0), 0)) (by decide +kernel)) rfl hm_z
          replace hm_z := rn_goto (am_cur_of (i := (275, 3, .goto 4, (133, 0, 0), 0)) (by decide +kernel)) hm_z
          replace hm_z := rn_lret (am_cur_of (i := (279, 1, .lreturn, (0, 0, 0), 0)) (by decide +kernel)) hm_z
          obtain ⟨e187_z, e188_z⟩ := hm_z
          rw [e188_z]
          exact (nk_t nk_r k182_z)
      · replace b128_z : (rg_v g 181 k.toNatClampNeg) = (2 : Int32) ∧ (rg_v g 181 k.toNatClampNeg).toInt = (2 : Int32).toInt := b128_z
        replace hm_z := rn_lload_n (am_cur_of (i := (61, 1, .lload_n 2, (0, 0, 0), 0)) (by decide +kernel)) g2_z hm_z
        replace hm_z := rn_lconst (w := 0) (am_cur_of (i := (62, 1, .lconst 0, (0, 0, 0), 0)) (by decide +kernel)) rfl hm_z
        replace hm_z := rn_lcmp (w := lg_cmp (rg_l g 187 ((rg_v g 182 k.toNatClampNeg).toNatClampNeg)) 0) (am_cur_of (i := (63, 1, .lcmp, (0, 0, 0), 0)) (by decide +kernel)) rfl hm_z
        replace hm_z := rn_if (am_cur_of (i := (64, 3, .ifCond .ne 7, (45, 0, 0), 0)) (by decide +kernel)) hm_z
        rcases hm_z with ⟨b189_z, hm_z⟩ | ⟨b189_z, hm_z⟩
        · replace b189_z : ¬ (lg_cmp (rg_l g 187 ((rg_v g 182 k.toNatClampNeg).toNatClampNeg)) 0) = (0 : Int32) ∧ ¬ (lg_cmp (rg_l g 187 ((rg_v g 182 k.toNatClampNeg).toNatClampNeg)) 0).toInt = (0 : Int32).toInt := b189_z
          replace hm_z := rn_lconst (w := 0) (am_cur_of (i := (71, 1, .lconst 0, (0, 0, 0), 0)) (by decide +kernel)) rfl hm_z
          replace hm_z := rn_lret (am_cur_of (i := (72, 1, .lreturn, (0, 0, 0), 0)) (by decide +kernel)) hm_z
          obtain ⟨e190_z, e191_z⟩ := hm_z
          rw [e191_z]
          exact nk_r
        · replace b189_z : (lg_cmp (rg_l g 187 ((rg_v g 182 k.toNatClampNeg).toNatClampNeg)) 0) = (0 : Int32) ∧ (lg_cmp (rg_l g 187 ((rg_v g 182 k.toNatClampNeg).toNatClampNeg)) 0).toInt = (0 : Int32).toInt := b189_z
          replace hm_z := rn_lconst (w := 1) (am_cur_of (i := (67, 1, .lconst 1, (0, 0, 0), 0)) (by decide +kernel)) rfl hm_z
          replace hm_z := rn_goto (am_cur_of (i := (68, 3, .goto 4, (46, 0, 0), 0)) (by decide +kernel)) hm_z
          replace hm_z := rn_lret (am_cur_of (i := (72, 1, .lreturn, (0, 0, 0), 0)) (by decide +kernel)) hm_z
          obtain ⟨e192_z, e193_z⟩ := hm_z
          rw [e193_z]
          exact nk_r
    · replace b122_z : (rg_v g 181 k.toNatClampNeg) = (1 : Int32) ∧ (rg_v g 181 k.toNatClampNeg).toInt = (1 : Int32).toInt := b122_z
      replace hm_z := rn_aload_n (am_cur_of (i := (27, 1, .aload_n 0, (0, 0, 0), 0)) (by decide +kernel)) g0_z hm_z
      replace hm_z := rn_getR (x := 186) (am_cur_of (i := (28, 3, .getfield 78, (12, 47, 1431), 0)) (by decide +kernel)) (by decide +kernel) hm_z
      replace hm_z := rn_aload_n (am_cur_of (i := (31, 1, .aload_n 0, (0, 0, 0), 0)) (by decide +kernel)) g0_z hm_z
      replace hm_z := rn_getR (x := 182) (am_cur_of (i := (32, 3, .getfield 66, (12, 37, 1421), 0)) (by decide +kernel)) (by decide +kernel) hm_z
      replace hm_z := rn_iload_n (am_cur_of (i := (35, 1, .iload_n 1, (0, 0, 0), 0)) (by decide +kernel)) g1_z hm_z
      replace hm_z := rn_iaload (N := 128) (q := k.toNatClampNeg) (v := rg_v g 182 k.toNatClampNeg) (am_cur_of (i := (36, 1, .iaload, (0, 0, 0), 0)) (by decide +kernel)) (by decide +kernel) rfl rfl hm_z
      obtain ⟨p194_z, hm_z⟩ := hm_z
      replace hm_z := rn_laload (N := 6) (q := (rg_v g 182 k.toNatClampNeg).toNatClampNeg) (v := rg_l g 186 ((rg_v g 182 k.toNatClampNeg).toNatClampNeg)) (am_cur_of (i := (37, 1, .laload, (0, 0, 0), 0)) (by decide +kernel)) (by decide +kernel) rfl rfl hm_z
      obtain ⟨p195_z, hm_z⟩ := hm_z
      replace hm_z := rn_lret (am_cur_of (i := (38, 1, .lreturn, (0, 0, 0), 0)) (by decide +kernel)) hm_z
      obtain ⟨e196_z, e197_z⟩ := hm_z
      rw [e197_z]
      exact nk_r
  · replace b120_z : (rg_v g 181 k.toNatClampNeg) = (0 : Int32) ∧ (rg_v g 181 k.toNatClampNeg).toInt = (0 : Int32).toInt := b120_z
    replace hm_z := rn_aload_n (am_cur_of (i := (9, 1, .aload_n 0, (0, 0, 0), 0)) (by decide +kernel)) g0_z hm_z
    replace hm_z := rn_getR (x := 182) (am_cur_of (i := (10, 3, .getfield 66, (12, 37, 1421), 0)) (by decide +kernel)) (by decide +kernel) hm_z
    replace hm_z := rn_iload_n (am_cur_of (i := (13, 1, .iload_n 1, (0, 0, 0), 0)) (by decide +kernel)) g1_z hm_z
    replace hm_z := rn_iaload (N := 128) (q := k.toNatClampNeg) (v := rg_v g 182 k.toNatClampNeg) (am_cur_of (i := (14, 1, .iaload, (0, 0, 0), 0)) (by decide +kernel)) (by decide +kernel) rfl rfl hm_z
    obtain ⟨p198_z, hm_z⟩ := hm_z
    replace hm_z := rn_i2l (w := (rg_v g 182 k.toNatClampNeg).toInt64) (am_cur_of (i := (15, 1, .i2l, (0, 0, 0), 0)) (by decide +kernel)) rfl hm_z
    replace hm_z := rn_lret (am_cur_of (i := (16, 1, .lreturn, (0, 0, 0), 0)) (by decide +kernel)) hm_z
    obtain ⟨e199_z, e200_z⟩ := hm_z
    rw [e200_z]
    exact nk_r
theorem nq_191_L {r : Option Value} {g' : am_H} {w : Int32}  : ∀ f : Nat, (∀ (v2_z : Int32) (ls : am_L) (g : am_H), am_get ls 0 = some (.ref 164) → am_get ls 1 = some (.int w) → am_get ls 2 = some (.int v2_z) → rn f am_m191 8 ls [] g r g' → nk g g') := by
  intro f
  induction f with
  | zero =>
    exact (fun _ _ _ _ _ _ hm_z => absurd hm_z rn_0)
  | succ f ih_z =>
    have I8 := ih_z
    have H8 : ∀ (v2_z : Int32) (ls : am_L) (g : am_H), am_get ls 0 = some (.ref 164) → am_get ls 1 = some (.int w) → am_get ls 2 = some (.int v2_z) → rn (f + 1) am_m191 8 ls [] g r g' → nk g g' := by
      intro v2_z ls g g0_z g1_z g2_z hm_z
      have z0_z : (0 : Int32).toInt = 0 := by decide
      replace hm_z := rn_iload_n (am_cur_of (i := (12, 1, .iload_n 2, (0, 0, 0), 0)) (by decide +kernel)) g2_z hm_z
      replace hm_z := rn_aload_n (am_cur_of (i := (13, 1, .aload_n 0, (0, 0, 0), 0)) (by decide +kernel)) g0_z hm_z
      replace hm_z := rn_getR (x := 180) (am_cur_of (i := (14, 3, .getfield 60, (12, 35, 1419), 0)) (by decide +kernel)) (by decide +kernel) hm_z
      replace hm_z := rn_iload_n (am_cur_of (i := (17, 1, .iload_n 1, (0, 0, 0), 0)) (by decide +kernel)) g1_z hm_z
      replace hm_z := rn_iaload (N := 6) (q := w.toNatClampNeg) (v := rg_v g 180 w.toNatClampNeg) (am_cur_of (i := (18, 1, .iaload, (0, 0, 0), 0)) (by decide +kernel)) (by decide +kernel) rfl rfl hm_z
      obtain ⟨p201_z, hm_z⟩ := hm_z
      replace hm_z := rn_cmp (am_cur_of (i := (19, 3, .if_icmp .ge 20, (23, 0, 0), 0)) (by decide +kernel)) hm_z
      rcases hm_z with ⟨b202_z, hm_z⟩ | ⟨b202_z, hm_z⟩
      · replace b202_z : (rg_v g 180 w.toNatClampNeg).toInt ≤ v2_z.toInt := b202_z
        replace hm_z := rn_aload_n (am_cur_of (i := (39, 1, .aload_n 0, (0, 0, 0), 0)) (by decide +kernel)) g0_z hm_z
        replace hm_z := rn_getI (v := rg_v g 164 49) (am_cur_of (i := (40, 3, .getfield 327, (12, 49, 1433), 0)) (by decide +kernel)) (by decide +kernel) rfl hm_z
        replace hm_z := rn_if (am_cur_of (i := (43, 3, .ifCond .eq 7, (28, 0, 0), 0)) (by decide +kernel)) hm_z
        rcases hm_z with ⟨b203_z, hm_z⟩ | ⟨b203_z, hm_z⟩
        · replace b203_z : (rg_v g 164 49) = (0 : Int32) ∧ (rg_v g 164 49).toInt = (0 : Int32).toInt := b203_z
          replace hm_z := rn_aload_n (am_cur_of (i := (50, 1, .aload_n 0, (0, 0, 0), 0)) (by decide +kernel)) g0_z hm_z
          replace hm_z := rn_getR (x := 187) (am_cur_of (i := (51, 3, .getfield 82, (12, 48, 1432), 0)) (by decide +kernel)) (by decide +kernel) hm_z
          replace hm_z := rn_aload_n (am_cur_of (i := (54, 1, .aload_n 0, (0, 0, 0), 0)) (by decide +kernel)) g0_z hm_z
          replace hm_z := rn_getR (x := 180) (am_cur_of (i := (55, 3, .getfield 60, (12, 35, 1419), 0)) (by decide +kernel)) (by decide +kernel) hm_z
          replace hm_z := rn_iload_n (am_cur_of (i := (58, 1, .iload_n 1, (0, 0, 0), 0)) (by decide +kernel)) g1_z hm_z
          replace hm_z := rn_iaload (N := 6) (q := w.toNatClampNeg) (v := rg_v g 180 w.toNatClampNeg) (am_cur_of (i := (59, 1, .iaload, (0, 0, 0), 0)) (by decide +kernel)) (by decide +kernel) rfl rfl hm_z
          obtain ⟨p204_z, hm_z⟩ := hm_z
          replace hm_z := rn_iconst (w := 1) (am_cur_of (i := (60, 1, .iconst 1, (0, 0, 0), 0)) (by decide +kernel)) (by decide) hm_z
          replace hm_z := rn_isub (w := (rg_v g 180 w.toNatClampNeg) - 1) (am_cur_of (i := (61, 1, .isub, (0, 0, 0), 0)) (by decide +kernel)) rfl hm_z
          replace hm_z := rn_laload (N := 64) (q := ((rg_v g 180 w.toNatClampNeg) - 1).toNatClampNeg) (v := rg_l g 187 (((rg_v g 180 w.toNatClampNeg) - 1).toNatClampNeg)) (am_cur_of (i := (62, 1, .laload, (0, 0, 0), 0)) (by decide +kernel)) (by decide +kernel) rfl rfl hm_z
          obtain ⟨p205_z, hm_z⟩ := hm_z
          replace hm_z := rn_lret (am_cur_of (i := (63, 1, .lreturn, (0, 0, 0), 0)) (by decide +kernel)) hm_z
          obtain ⟨e206_z, e207_z⟩ := hm_z
          rw [e207_z]
          exact nk_r
        · replace b203_z : ¬ (rg_v g 164 49) = (0 : Int32) ∧ ¬ (rg_v g 164 49).toInt = (0 : Int32).toInt := b203_z
          replace hm_z := rn_lconst (w := 0) (am_cur_of (i := (46, 1, .lconst 0, (0, 0, 0), 0)) (by decide +kernel)) rfl hm_z
          replace hm_z := rn_goto (am_cur_of (i := (47, 3, .goto 16, (37, 0, 0), 0)) (by decide +kernel)) hm_z
          replace hm_z := rn_lret (am_cur_of (i := (63, 1, .lreturn, (0, 0, 0), 0)) (by decide +kernel)) hm_z
          obtain ⟨e208_z, e209_z⟩ := hm_z
          rw [e209_z]
          exact nk_r
      · replace b202_z : v2_z.toInt < (rg_v g 180 w.toNatClampNeg).toInt := b202_z
        replace hm_z := rn_aload_n (am_cur_of (i := (22, 1, .aload_n 0, (0, 0, 0), 0)) (by decide +kernel)) g0_z hm_z
        replace hm_z := rn_getR (x := 187) (am_cur_of (i := (23, 3, .getfield 82, (12, 48, 1432), 0)) (by decide +kernel)) (by decide +kernel) hm_z
        replace hm_z := rn_iload_n (am_cur_of (i := (26, 1, .iload_n 2, (0, 0, 0), 0)) (by decide +kernel)) g2_z hm_z
        replace hm_z := rn_aload_n (am_cur_of (i := (27, 1, .aload_n 0, (0, 0, 0), 0)) (by decide +kernel)) g0_z hm_z
        replace hm_z := rn_iload_n (am_cur_of (i := (28, 1, .iload_n 2, (0, 0, 0), 0)) (by decide +kernel)) g2_z hm_z
        replace hm_z := rn_callV (M' := am_m192) (o := 164) (ar := [.int v2_z]) (rest := [.int v2_z, .ref 187]) (L := lv_args 0 [.ref 164, .int v2_z]) (am_cur_of (i := (29, 3, .invokevirtual 385, (192, 1799, 3), 0)) (by decide +kernel)) rfl rfl rfl rfl hm_z
        obtain ⟨r210_z, h211_z, q212_z, hm_z⟩ := hm_z
        have k213_z := nq_192 q212_z
        obtain ⟨v214_z, rfl⟩ := fk_long (M := am_m192) rfl q212_z
        replace hm_z : rn _ _ _ _ [.long v214_z, .int v2_z, .ref 187] _ _ _ := hm_z
        replace hm_z := rn_lastore (N := 64) (q := v2_z.toNatClampNeg) (am_cur_of (i := (32, 1, .lastore, (0, 0, 0), 0)) (by decide +kernel)) (by decide +kernel) rfl hm_z
        obtain ⟨p215_z, hm_z⟩ := hm_z
        replace hm_z := rn_iinc (w := v2_z + 1) (am_cur_of (i := (33, 3, .iinc 2 1, (0, 0, 0), 0)) (by decide +kernel)) g2_z rfl hm_z
        obtain ⟨_, s216_z, s217_z, g2_z, hm_z⟩ := hm_z
        replace g0_z := s216_z 0 _ (by decide) rfl g0_z
        replace g1_z := s216_z 1 _ (by decide) rfl g1_z
        clear s216_z s217_z
        replace hm_z := rn_gotoL (am_cur_of (i := (36, 3, .goto (-24), (8, 0, 0), 0)) (by decide +kernel)) hm_z
        exact nk_t (nk_u rfl (nk_t nk_r k213_z)) (I8 (v2_z + 1) _ _ g0_z g1_z g2_z hm_z)
    exact H8
theorem nq_191 {nst : Nat} {r : Option Value} {g g' : am_H} {w : Int32}  (hm_z : rn nst am_m191 0 (lv_args 0 [.ref 164, .int w]) [] g r g') : nk g g' := by
  have g0_z : am_get (lv_args 0 [.ref 164, .int w]) 0 = some (.ref 164) := rfl
  have g1_z : am_get (lv_args 0 [.ref 164, .int w]) 1 = some (.int w) := rfl
  replace hm_z := rn_aload_n (am_cur_of (i := (0, 1, .aload_n 0, (0, 0, 0), 0)) (by decide +kernel)) g0_z hm_z
  replace hm_z := rn_iconst (w := 0) (am_cur_of (i := (1, 1, .iconst 0, (0, 0, 0), 0)) (by decide +kernel)) (by decide) hm_z
  replace hm_z := rn_put (am_cur_of (i := (2, 3, .putfield 327, (12, 49, 1433), 0)) (by decide +kernel)) (by decide +kernel) hm_z
  replace hm_z := rn_aload_n (am_cur_of (i := (5, 1, .aload_n 0, (0, 0, 0), 0)) (by decide +kernel)) g0_z hm_z
  replace hm_z := rn_getR (x := 179) (am_cur_of (i := (6, 3, .getfield 57, (12, 34, 1418), 0)) (by decide +kernel)) (by decide +kernel) hm_z
  replace hm_z := rn_iload_n (am_cur_of (i := (9, 1, .iload_n 1, (0, 0, 0), 0)) (by decide +kernel)) g1_z hm_z
  replace hm_z := rn_iaload (N := 6) (q := w.toNatClampNeg) (v := rg_v g 179 w.toNatClampNeg) (am_cur_of (i := (10, 1, .iaload, (0, 0, 0), 0)) (by decide +kernel)) (by decide +kernel) rfl (show rg_v (am_up g 164 49 (.int 0)) 179 w.toNatClampNeg = rg_v g 179 w.toNatClampNeg from rfl) hm_z
  obtain ⟨p218_z, hm_z⟩ := hm_z
  replace hm_z := rn_istore_n (am_cur_of (i := (11, 1, .istore_n 2, (0, 0, 0), 0)) (by decide +kernel)) hm_z
  obtain ⟨_, s219_z, s220_z, g2_z, hm_z⟩ := hm_z
  replace g0_z := s219_z 0 _ (by decide) rfl g0_z
  replace g1_z := s219_z 1 _ (by decide) rfl g1_z
  clear s219_z s220_z
  have H8 := (nq_191_L (r := r) (g' := g') (w := w)  nst)
  exact nk_t (nk_u (by decide) nk_r) (H8 (rg_v g 179 w.toNatClampNeg) _ _ g0_z g1_z g2_z hm_z)
theorem nq_190 {nst : Nat} {r : Option Value} {g g' : am_H} {w : Int32} {u : Int32} {m : Int32}  (hm_z : rn nst am_m190 0 (lv_args 0 [.ref 164, .int w, .int u, .int m]) [] g r g') : nk g g' := by
  have z0_z : (0 : Int32).toInt = 0 := by decide
  have g0_z : am_get (lv_args 0 [.ref 164, .int w, .int u, .int m]) 0 = some (.ref 164) := rfl
  have g1_z : am_get (lv_args 0 [.ref 164, .int w, .int u, .int m]) 1 = some (.int w) := rfl
  have g2_z : am_get (lv_args 0 [.ref 164, .int w, .int u, .int m]) 2 = some (.int u) := rfl
  have g3_z : am_get (lv_args 0 [.ref 164, .int w, .int u, .int m]) 3 = some (.int m) := rfl
  replace hm_z := rn_aload_n (am_cur_of (i := (0, 1, .aload_n 0, (0, 0, 0), 0)) (by decide +kernel)) g0_z hm_z
  replace hm_z := rn_getR (x := 178) (am_cur_of (i := (1, 3, .getfield 54, (12, 33, 1417), 0)) (by decide +kernel)) (by decide +kernel) hm_z
  replace hm_z := rn_iload_n (am_cur_of (i := (4, 1, .iload_n 1, (0, 0, 0), 0)) (by decide +kernel)) g1_z hm_z
  replace hm_z := rn_baload (N := 6) (q := w.toNatClampNeg) (v := rg_v g 178 w.toNatClampNeg) (am_cur_of (i := (5, 1, .baload, (0, 0, 0), 0)) (by decide +kernel)) (by decide +kernel) rfl rfl hm_z
  obtain ⟨p221_z, hm_z⟩ := hm_z
  replace hm_z := rn_if (am_cur_of (i := (6, 3, .ifCond .ne 5, (7, 0, 0), 0)) (by decide +kernel)) hm_z
  rcases hm_z with ⟨b222_z, hm_z⟩ | ⟨b222_z, hm_z⟩
  · replace b222_z : ¬ (rg_v g 178 w.toNatClampNeg) = (0 : Int32) ∧ ¬ (rg_v g 178 w.toNatClampNeg).toInt = (0 : Int32).toInt := b222_z
    replace hm_z := rn_aload_n (am_cur_of (i := (11, 1, .aload_n 0, (0, 0, 0), 0)) (by decide +kernel)) g0_z hm_z
    replace hm_z := rn_iload_n (am_cur_of (i := (12, 1, .iload_n 1, (0, 0, 0), 0)) (by decide +kernel)) g1_z hm_z
    replace hm_z := rn_callV (M' := am_m191) (o := 164) (ar := [.int w]) (rest := []) (L := lv_args 0 [.ref 164, .int w]) (am_cur_of (i := (13, 3, .invokevirtual 389, (191, 1795, 3), 0)) (by decide +kernel)) rfl rfl rfl rfl hm_z
    obtain ⟨r223_z, h224_z, q225_z, hm_z⟩ := hm_z
    have k226_z := nq_191 q225_z
    obtain ⟨v227_z, rfl⟩ := fk_long (M := am_m191) rfl q225_z
    replace hm_z : rn _ _ _ _ [.long v227_z] _ _ _ := hm_z
    replace hm_z := rn_lstore (am_cur_of (i := (16, 2, .lstore 4, (0, 0, 0), 0)) (by decide +kernel)) hm_z
    obtain ⟨_, s228_z, s229_z, g4_z, hm_z⟩ := hm_z
    replace g0_z := s228_z 0 _ (by decide) (by decide) rfl g0_z
    replace g1_z := s228_z 1 _ (by decide) (by decide) rfl g1_z
    replace g2_z := s228_z 2 _ (by decide) (by decide) rfl g2_z
    replace g3_z := s228_z 3 _ (by decide) (by decide) rfl g3_z
    clear s228_z s229_z
    replace hm_z := rn_aload_n (am_cur_of (i := (18, 1, .aload_n 0, (0, 0, 0), 0)) (by decide +kernel)) g0_z hm_z
    replace hm_z := rn_getI (v := rg_v h224_z 164 49) (am_cur_of (i := (19, 3, .getfield 327, (12, 49, 1433), 0)) (by decide +kernel)) (by decide +kernel) rfl hm_z
    replace hm_z := rn_if (am_cur_of (i := (22, 3, .ifCond .eq 5, (16, 0, 0), 0)) (by decide +kernel)) hm_z
    rcases hm_z with ⟨b230_z, hm_z⟩ | ⟨b230_z, hm_z⟩
    · replace b230_z : (rg_v h224_z 164 49) = (0 : Int32) ∧ (rg_v h224_z 164 49).toInt = (0 : Int32).toInt := b230_z
      replace hm_z := rn_lload (am_cur_of (i := (27, 2, .lload 4, (0, 0, 0), 0)) (by decide +kernel)) g4_z hm_z
      replace hm_z := rn_lconst (w := 0) (am_cur_of (i := (29, 1, .lconst 0, (0, 0, 0), 0)) (by decide +kernel)) rfl hm_z
      replace hm_z := rn_lcmp (w := lg_cmp v227_z 0) (am_cur_of (i := (30, 1, .lcmp, (0, 0, 0), 0)) (by decide +kernel)) rfl hm_z
      replace hm_z := rn_if (am_cur_of (i := (31, 3, .ifCond .ge 7, (22, 0, 0), 0)) (by decide +kernel)) hm_z
      rcases hm_z with ⟨b231_z, hm_z⟩ | ⟨b231_z, hm_z⟩
      · replace b231_z : (0 : Int32).toInt ≤ (lg_cmp v227_z 0).toInt := b231_z
        replace hm_z := rn_lload (am_cur_of (i := (38, 2, .lload 4, (0, 0, 0), 0)) (by decide +kernel)) g4_z hm_z
        replace hm_z := rn_iload_n (am_cur_of (i := (40, 1, .iload_n 3, (0, 0, 0), 0)) (by decide +kernel)) g3_z hm_z
        replace hm_z := rn_i2l (w := m.toInt64) (am_cur_of (i := (41, 1, .i2l, (0, 0, 0), 0)) (by decide +kernel)) rfl hm_z
        replace hm_z := rn_lcmp (w := lg_cmp v227_z m.toInt64) (am_cur_of (i := (42, 1, .lcmp, (0, 0, 0), 0)) (by decide +kernel)) rfl hm_z
        replace hm_z := rn_if (am_cur_of (i := (43, 3, .ifCond .le 7, (29, 0, 0), 0)) (by decide +kernel)) hm_z
        rcases hm_z with ⟨b232_z, hm_z⟩ | ⟨b232_z, hm_z⟩
        · replace b232_z : (lg_cmp v227_z m.toInt64).toInt ≤ (0 : Int32).toInt := b232_z
          replace hm_z := rn_lload (am_cur_of (i := (50, 2, .lload 4, (0, 0, 0), 0)) (by decide +kernel)) g4_z hm_z
          replace hm_z := rn_l2i (w := v227_z.toInt32) (am_cur_of (i := (52, 1, .l2i, (0, 0, 0), 0)) (by decide +kernel)) rfl hm_z
          replace hm_z := rn_iret (am_cur_of (i := (53, 1, .ireturn, (0, 0, 0), 0)) (by decide +kernel)) hm_z
          obtain ⟨e233_z, e234_z⟩ := hm_z
          rw [e234_z]
          exact (nk_t nk_r k226_z)
        · replace b232_z : (0 : Int32).toInt < (lg_cmp v227_z m.toInt64).toInt := b232_z
          replace hm_z := rn_iload_n (am_cur_of (i := (46, 1, .iload_n 3, (0, 0, 0), 0)) (by decide +kernel)) g3_z hm_z
          replace hm_z := rn_goto (am_cur_of (i := (47, 3, .goto 6, (31, 0, 0), 0)) (by decide +kernel)) hm_z
          replace hm_z := rn_iret (am_cur_of (i := (53, 1, .ireturn, (0, 0, 0), 0)) (by decide +kernel)) hm_z
          obtain ⟨e235_z, e236_z⟩ := hm_z
          rw [e236_z]
          exact (nk_t nk_r k226_z)
      · replace b231_z : (lg_cmp v227_z 0).toInt < (0 : Int32).toInt := b231_z
        replace hm_z := rn_iconst (w := 0) (am_cur_of (i := (34, 1, .iconst 0, (0, 0, 0), 0)) (by decide +kernel)) (by decide) hm_z
        replace hm_z := rn_goto (am_cur_of (i := (35, 3, .goto 18, (31, 0, 0), 0)) (by decide +kernel)) hm_z
        replace hm_z := rn_iret (am_cur_of (i := (53, 1, .ireturn, (0, 0, 0), 0)) (by decide +kernel)) hm_z
        obtain ⟨e237_z, e238_z⟩ := hm_z
        rw [e238_z]
        exact (nk_t nk_r k226_z)
    · replace b230_z : ¬ (rg_v h224_z 164 49) = (0 : Int32) ∧ ¬ (rg_v h224_z 164 49).toInt = (0 : Int32).toInt := b230_z
      replace hm_z := rn_iload_n (am_cur_of (i := (25, 1, .iload_n 2, (0, 0, 0), 0)) (by decide +kernel)) g2_z hm_z
      replace hm_z := rn_iret (am_cur_of (i := (26, 1, .ireturn, (0, 0, 0), 0)) (by decide +kernel)) hm_z
      obtain ⟨e239_z, e240_z⟩ := hm_z
      rw [e240_z]
      exact (nk_t nk_r k226_z)
  · replace b222_z : (rg_v g 178 w.toNatClampNeg) = (0 : Int32) ∧ (rg_v g 178 w.toNatClampNeg).toInt = (0 : Int32).toInt := b222_z
    replace hm_z := rn_iload_n (am_cur_of (i := (9, 1, .iload_n 2, (0, 0, 0), 0)) (by decide +kernel)) g2_z hm_z
    replace hm_z := rn_iret (am_cur_of (i := (10, 1, .ireturn, (0, 0, 0), 0)) (by decide +kernel)) hm_z
    obtain ⟨e241_z, e242_z⟩ := hm_z
    rw [e242_z]
    exact nk_r
theorem nq_188 {nst : Nat} {r : Option Value} {g g' : am_H} {b : Int32} {o : Int32}  (hm_z : rn nst am_m188 0 (lv_args 0 [.ref 164, .int b, .int o]) [] g r g') : nk g g' := by
  have z0_z : (0 : Int32).toInt = 0 := by decide
  have g0_z : am_get (lv_args 0 [.ref 164, .int b, .int o]) 0 = some (.ref 164) := rfl
  have g1_z : am_get (lv_args 0 [.ref 164, .int b, .int o]) 1 = some (.int b) := rfl
  have g2_z : am_get (lv_args 0 [.ref 164, .int b, .int o]) 2 = some (.int o) := rfl
  replace hm_z := rn_aload_n (am_cur_of (i := (0, 1, .aload_n 0, (0, 0, 0), 0)) (by decide +kernel)) g0_z hm_z
  replace hm_z := rn_getI (v := rg_v g 164 61) (am_cur_of (i := (1, 3, .getfield 355, (12, 61, 1445), 0)) (by decide +kernel)) (by decide +kernel) rfl hm_z
  replace hm_z := rn_if (am_cur_of (i := (4, 3, .ifCond .eq 5, (5, 0, 0), 0)) (by decide +kernel)) hm_z
  rcases hm_z with ⟨b243_z, hm_z⟩ | ⟨b243_z, hm_z⟩
  · replace b243_z : (rg_v g 164 61) = (0 : Int32) ∧ (rg_v g 164 61).toInt = (0 : Int32).toInt := b243_z
    replace hm_z := rn_aload_n (am_cur_of (i := (9, 1, .aload_n 0, (0, 0, 0), 0)) (by decide +kernel)) g0_z hm_z
    replace hm_z := rn_iload_n (am_cur_of (i := (10, 1, .iload_n 1, (0, 0, 0), 0)) (by decide +kernel)) g1_z hm_z
    replace hm_z := rn_iload_n (am_cur_of (i := (11, 1, .iload_n 2, (0, 0, 0), 0)) (by decide +kernel)) g2_z hm_z
    replace hm_z := rn_iconst (w := 0) (am_cur_of (i := (12, 1, .iconst 0, (0, 0, 0), 0)) (by decide +kernel)) (by decide) hm_z
    replace hm_z := rn_iconst (w := 0) (am_cur_of (i := (13, 1, .iconst 0, (0, 0, 0), 0)) (by decide +kernel)) (by decide) hm_z
    replace hm_z := rn_callV (M' := am_m189) (o := 164) (ar := [.int 0, .int 0, .int o, .int b]) (rest := []) (L := lv_args 0 [.ref 164, .int b, .int o, .int 0, .int 0]) (am_cur_of (i := (14, 3, .invokevirtual 392, (189, 1787, 3), 0)) (by decide +kernel)) rfl rfl rfl rfl hm_z
    obtain ⟨r244_z, h245_z, q246_z, hm_z⟩ := hm_z
    have k247_z := nq_189 q246_z
    have vo := rn_void rfl q246_z
    subst vo
    replace hm_z : rn _ _ _ _ [] _ _ _ := hm_z
    replace hm_z := rn_aload_n (am_cur_of (i := (17, 1, .aload_n 0, (0, 0, 0), 0)) (by decide +kernel)) g0_z hm_z
    replace hm_z := rn_iconst (w := 2) (am_cur_of (i := (18, 1, .iconst 2, (0, 0, 0), 0)) (by decide +kernel)) (by decide) hm_z
    replace hm_z := rn_iconst (w := 0) (am_cur_of (i := (19, 1, .iconst 0, (0, 0, 0), 0)) (by decide +kernel)) (by decide) hm_z
    replace hm_z := rn_bipush (w := 99) (am_cur_of (i := (20, 2, .bipush 99, (0, 0, 0), 0)) (by decide +kernel)) (by decide) hm_z
    replace hm_z := rn_callV (M' := am_m190) (o := 164) (ar := [.int 99, .int 0, .int 2]) (rest := []) (L := lv_args 0 [.ref 164, .int 2, .int 0, .int 99]) (am_cur_of (i := (22, 3, .invokevirtual 396, (190, 1791, 3), 0)) (by decide +kernel)) rfl rfl rfl rfl hm_z
    obtain ⟨r248_z, h249_z, q250_z, hm_z⟩ := hm_z
    have k251_z := nq_190 q250_z
    obtain ⟨v252_z, rfl⟩ := rn_ret (M := am_m190) rfl (by decide) q250_z
    replace hm_z : rn _ _ _ _ [.int v252_z] _ _ _ := hm_z
    replace hm_z := rn_iret (am_cur_of (i := (25, 1, .ireturn, (0, 0, 0), 0)) (by decide +kernel)) hm_z
    obtain ⟨e253_z, e254_z⟩ := hm_z
    rw [e254_z]
    exact (nk_t (nk_t nk_r k247_z) k251_z)
  · replace b243_z : ¬ (rg_v g 164 61) = (0 : Int32) ∧ ¬ (rg_v g 164 61).toInt = (0 : Int32).toInt := b243_z
    replace hm_z := rn_iconst (w := 0) (am_cur_of (i := (7, 1, .iconst 0, (0, 0, 0), 0)) (by decide +kernel)) (by decide) hm_z
    replace hm_z := rn_iret (am_cur_of (i := (8, 1, .ireturn, (0, 0, 0), 0)) (by decide +kernel)) hm_z
    obtain ⟨e255_z, e256_z⟩ := hm_z
    rw [e256_z]
    exact nk_r
theorem nq_202 {nst : Nat} {r : Option Value} {g g' : am_H} {x : Int32} {k : Int32}  (hm_z : rn nst am_m202 0 (lv_args 0 [.int x, .int k]) [] g r g') : nk g g' := by
  have z1_z : (1 : Int32).toInt = 1 := by decide
  have g0_z : am_get (lv_args 0 [.int x, .int k]) 0 = some (.int x) := rfl
  have g1_z : am_get (lv_args 0 [.int x, .int k]) 1 = some (.int k) := rfl
  replace hm_z := rn_iload_n (am_cur_of (i := (0, 1, .iload_n 0, (0, 0, 0), 0)) (by decide +kernel)) g0_z hm_z
  replace hm_z := rn_iload_n (am_cur_of (i := (1, 1, .iload_n 1, (0, 0, 0), 0)) (by decide +kernel)) g1_z hm_z
  replace hm_z := rn_ishr (w := x >>> (k &&& 31)) (am_cur_of (i := (2, 1, .ishr, (0, 0, 0), 0)) (by decide +kernel)) rfl hm_z
  replace hm_z := rn_iconst (w := 1) (am_cur_of (i := (3, 1, .iconst 1, (0, 0, 0), 0)) (by decide +kernel)) (by decide) hm_z
  replace hm_z := rn_iand (w := (x >>> (k &&& 31)) &&& 1) (am_cur_of (i := (4, 1, .iand, (0, 0, 0), 0)) (by decide +kernel)) rfl hm_z
  replace hm_z := rn_iconst (w := 1) (am_cur_of (i := (5, 1, .iconst 1, (0, 0, 0), 0)) (by decide +kernel)) (by decide) hm_z
  replace hm_z := rn_cmp (am_cur_of (i := (6, 3, .if_icmp .ne 7, (9, 0, 0), 0)) (by decide +kernel)) hm_z
  rcases hm_z with ⟨b257_z, hm_z⟩ | ⟨b257_z, hm_z⟩
  · replace b257_z : ¬ ((x >>> (k &&& 31)) &&& 1) = (1 : Int32) ∧ ¬ ((x >>> (k &&& 31)) &&& 1).toInt = (1 : Int32).toInt := b257_z
    replace hm_z := rn_iconst (w := 0) (am_cur_of (i := (13, 1, .iconst 0, (0, 0, 0), 0)) (by decide +kernel)) (by decide) hm_z
    replace hm_z := rn_iret (am_cur_of (i := (14, 1, .ireturn, (0, 0, 0), 0)) (by decide +kernel)) hm_z
    obtain ⟨e258_z, e259_z⟩ := hm_z
    rw [e259_z]
    exact nk_r
  · replace b257_z : ((x >>> (k &&& 31)) &&& 1) = (1 : Int32) ∧ ((x >>> (k &&& 31)) &&& 1).toInt = (1 : Int32).toInt := b257_z
    replace hm_z := rn_iconst (w := 1) (am_cur_of (i := (9, 1, .iconst 1, (0, 0, 0), 0)) (by decide +kernel)) (by decide) hm_z
    replace hm_z := rn_goto (am_cur_of (i := (10, 3, .goto 4, (10, 0, 0), 0)) (by decide +kernel)) hm_z
    replace hm_z := rn_iret (am_cur_of (i := (14, 1, .ireturn, (0, 0, 0), 0)) (by decide +kernel)) hm_z
    obtain ⟨e260_z, e261_z⟩ := hm_z
    rw [e261_z]
    exact nk_r
theorem nq_162_L {r : Option Value} {g' : am_H} {x : Int32} {y : Int32} {z : Int32}  : ∀ f : Nat, (∀ (ls : am_L) (g : am_H), rn f am_m162 8 ls [] g r g' → nk g g') := by
  intro f
  induction f with
  | zero =>
    exact (fun _ _ hm_z => absurd hm_z rn_0)
  | succ f ih_z =>
    have I8 := ih_z
    have H8 : ∀ (ls : am_L) (g : am_H), rn (f + 1) am_m162 8 ls [] g r g' → nk g g' := by
      intro ls g hm_z
      replace hm_z := rn_iconst (w := 0) (am_cur_of (i := (14, 1, .iconst 0, (0, 0, 0), 0)) (by decide +kernel)) (by decide) hm_z
      replace hm_z := rn_iret (am_cur_of (i := (15, 1, .ireturn, (0, 0, 0), 0)) (by decide +kernel)) hm_z
      obtain ⟨e262_z, e263_z⟩ := hm_z
      rw [e263_z]
      exact nk_r
    exact H8
theorem nq_162 {nst : Nat} {r : Option Value} {g g' : am_H} {x : Int32} {y : Int32} {z : Int32}  (hm_z : rn nst am_m162 0 (lv_args 0 [.int x, .int y, .int z]) [] g r g') : nk g g' := by
  have g0_z : am_get (lv_args 0 [.int x, .int y, .int z]) 0 = some (.int x) := rfl
  have g1_z : am_get (lv_args 0 [.int x, .int y, .int z]) 1 = some (.int y) := rfl
  have g2_z : am_get (lv_args 0 [.int x, .int y, .int z]) 2 = some (.int z) := rfl
  replace hm_z := rn_iload_n (am_cur_of (i := (0, 1, .iload_n 0, (0, 0, 0), 0)) (by decide +kernel)) g0_z hm_z
  replace hm_z := rn_iload_n (am_cur_of (i := (1, 1, .iload_n 1, (0, 0, 0), 0)) (by decide +kernel)) g1_z hm_z
  replace hm_z := rn_cmp (am_cur_of (i := (2, 3, .if_icmp .lt 12, (8, 0, 0), 0)) (by decide +kernel)) hm_z
  rcases hm_z with ⟨b264_z, hm_z⟩ | ⟨b264_z, hm_z⟩
  · replace b264_z : x.toInt < y.toInt := b264_z
    have H8 := (nq_162_L (r := r) (g' := g') (x := x) (y := y) (z := z)  nst)
    exact nk_t nk_r (H8 _ _ hm_z)
  · replace b264_z : y.toInt ≤ x.toInt := b264_z
    replace hm_z := rn_iload_n (am_cur_of (i := (5, 1, .iload_n 0, (0, 0, 0), 0)) (by decide +kernel)) g0_z hm_z
    replace hm_z := rn_iload_n (am_cur_of (i := (6, 1, .iload_n 2, (0, 0, 0), 0)) (by decide +kernel)) g2_z hm_z
    replace hm_z := rn_cmp (am_cur_of (i := (7, 3, .if_icmp .gt 7, (8, 0, 0), 0)) (by decide +kernel)) hm_z
    rcases hm_z with ⟨b265_z, hm_z⟩ | ⟨b265_z, hm_z⟩
    · replace b265_z : z.toInt < x.toInt := b265_z
      have H8 := (nq_162_L (r := r) (g' := g') (x := x) (y := y) (z := z)  nst)
      exact nk_t nk_r (H8 _ _ hm_z)
    · replace b265_z : x.toInt ≤ z.toInt := b265_z
      replace hm_z := rn_iconst (w := 1) (am_cur_of (i := (10, 1, .iconst 1, (0, 0, 0), 0)) (by decide +kernel)) (by decide) hm_z
      replace hm_z := rn_goto (am_cur_of (i := (11, 3, .goto 4, (9, 0, 0), 0)) (by decide +kernel)) hm_z
      replace hm_z := rn_iret (am_cur_of (i := (15, 1, .ireturn, (0, 0, 0), 0)) (by decide +kernel)) hm_z
      obtain ⟨e266_z, e267_z⟩ := hm_z
      rw [e267_z]
      exact nk_r
theorem nq_201_L {r : Option Value} {g' : am_H}  : ∀ f : Nat, (∀ (ls : am_L) (g : am_H), rn f am_m201 23 ls [] g r g' → nk g g') := by
  intro f
  induction f with
  | zero =>
    exact (fun _ _ hm_z => absurd hm_z rn_0)
  | succ f ih_z =>
    have I23 := ih_z
    have H23 : ∀ (ls : am_L) (g : am_H), rn (f + 1) am_m201 23 ls [] g r g' → nk g g' := by
      intro ls g hm_z
      replace hm_z := rn_iconst (w := 0) (am_cur_of (i := (49, 1, .iconst 0, (0, 0, 0), 0)) (by decide +kernel)) (by decide) hm_z
      replace hm_z := rn_goto (am_cur_of (i := (50, 3, .goto 9, (29, 0, 0), 0)) (by decide +kernel)) hm_z
      replace hm_z := rn_iret (am_cur_of (i := (59, 1, .ireturn, (0, 0, 0), 0)) (by decide +kernel)) hm_z
      obtain ⟨e268_z, e269_z⟩ := hm_z
      rw [e269_z]
      exact nk_r
    exact H23
theorem nq_201 {nst : Nat} {r : Option Value} {g g' : am_H}  (hm_z : rn nst am_m201 0 (lv_args 0 [.ref 164]) [] g r g') : nk g g' := by
  have z0_z : (0 : Int32).toInt = 0 := by decide
  have g0_z : am_get (lv_args 0 [.ref 164]) 0 = some (.ref 164) := rfl
  replace hm_z := rn_aload_n (am_cur_of (i := (0, 1, .aload_n 0, (0, 0, 0), 0)) (by decide +kernel)) g0_z hm_z
  replace hm_z := rn_getI (v := rg_v g 164 62) (am_cur_of (i := (1, 3, .getfield 106, (12, 62, 1446), 0)) (by decide +kernel)) (by decide +kernel) rfl hm_z
  replace hm_z := rn_if (am_cur_of (i := (4, 3, .ifCond .lt 10, (6, 0, 0), 0)) (by decide +kernel)) hm_z
  rcases hm_z with ⟨b270_z, hm_z⟩ | ⟨b270_z, hm_z⟩
  · replace b270_z : (rg_v g 164 62).toInt < (0 : Int32).toInt := b270_z
    replace hm_z := rn_aload_n (am_cur_of (i := (14, 1, .aload_n 0, (0, 0, 0), 0)) (by decide +kernel)) g0_z hm_z
    replace hm_z := rn_getI (v := rg_v g 164 58) (am_cur_of (i := (15, 3, .getfield 362, (12, 58, 1442), 0)) (by decide +kernel)) (by decide +kernel) rfl hm_z
    replace hm_z := rn_istore_n (am_cur_of (i := (18, 1, .istore_n 1, (0, 0, 0), 0)) (by decide +kernel)) hm_z
    obtain ⟨_, s271_z, s272_z, g1_z, hm_z⟩ := hm_z
    replace g0_z := s271_z 0 _ (by decide) rfl g0_z
    clear s271_z s272_z
    replace hm_z := rn_aload_n (am_cur_of (i := (19, 1, .aload_n 0, (0, 0, 0), 0)) (by decide +kernel)) g0_z hm_z
    replace hm_z := rn_getI (v := rg_v g 164 60) (am_cur_of (i := (20, 3, .getfield 352, (12, 60, 1444), 0)) (by decide +kernel)) (by decide +kernel) rfl hm_z
    replace hm_z := rn_if (am_cur_of (i := (23, 3, .ifCond .ne 26, (23, 0, 0), 0)) (by decide +kernel)) hm_z
    rcases hm_z with ⟨b273_z, hm_z⟩ | ⟨b273_z, hm_z⟩
    · replace b273_z : ¬ (rg_v g 164 60) = (0 : Int32) ∧ ¬ (rg_v g 164 60).toInt = (0 : Int32).toInt := b273_z
      have H23 := (nq_201_L (r := r) (g' := g')  nst)
      exact nk_t nk_r (H23 _ _ hm_z)
    · replace b273_z : (rg_v g 164 60) = (0 : Int32) ∧ (rg_v g 164 60).toInt = (0 : Int32).toInt := b273_z
      replace hm_z := rn_iload_n (am_cur_of (i := (26, 1, .iload_n 1, (0, 0, 0), 0)) (by decide +kernel)) g1_z hm_z
      replace hm_z := rn_if (am_cur_of (i := (27, 3, .ifCond .lt 22, (23, 0, 0), 0)) (by decide +kernel)) hm_z
      rcases hm_z with ⟨b274_z, hm_z⟩ | ⟨b274_z, hm_z⟩
      · replace b274_z : (rg_v g 164 58).toInt < (0 : Int32).toInt := b274_z
        have H23 := (nq_201_L (r := r) (g' := g')  nst)
        exact nk_t nk_r (H23 _ _ hm_z)
      · replace b274_z : (0 : Int32).toInt ≤ (rg_v g 164 58).toInt := b274_z
        replace hm_z := rn_iload_n (am_cur_of (i := (30, 1, .iload_n 1, (0, 0, 0), 0)) (by decide +kernel)) g1_z hm_z
        replace hm_z := rn_aload_n (am_cur_of (i := (31, 1, .aload_n 0, (0, 0, 0), 0)) (by decide +kernel)) g0_z hm_z
        replace hm_z := rn_getI (v := rg_v g 164 14) (am_cur_of (i := (32, 3, .getfield 225, (12, 14, 1398), 0)) (by decide +kernel)) (by decide +kernel) rfl hm_z
        replace hm_z := rn_cmp (am_cur_of (i := (35, 3, .if_icmp .ge 14, (23, 0, 0), 0)) (by decide +kernel)) hm_z
        rcases hm_z with ⟨b275_z, hm_z⟩ | ⟨b275_z, hm_z⟩
        · replace b275_z : (rg_v g 164 14).toInt ≤ (rg_v g 164 58).toInt := b275_z
          have H23 := (nq_201_L (r := r) (g' := g')  nst)
          exact nk_t nk_r (H23 _ _ hm_z)
        · replace b275_z : (rg_v g 164 58).toInt < (rg_v g 164 14).toInt := b275_z
          replace hm_z := rn_aload_n (am_cur_of (i := (38, 1, .aload_n 0, (0, 0, 0), 0)) (by decide +kernel)) g0_z hm_z
          replace hm_z := rn_getI (v := rg_v g 164 57) (am_cur_of (i := (39, 3, .getfield 349, (12, 57, 1441), 0)) (by decide +kernel)) (by decide +kernel) rfl hm_z
          replace hm_z := rn_iload_n (am_cur_of (i := (42, 1, .iload_n 1, (0, 0, 0), 0)) (by decide +kernel)) g1_z hm_z
          replace hm_z := rn_callS (M' := am_m202) (ar := [.int (rg_v g 164 58), .int (rg_v g 164 57)]) (rest := []) (L := lv_args 0 [.int (rg_v g 164 57), .int (rg_v g 164 58)]) (am_cur_of (i := (43, 3, .invokestatic 400, (202, 1840, 3), 0)) (by decide +kernel)) rfl rfl rfl rfl hm_z
          obtain ⟨r276_z, h277_z, q278_z, hm_z⟩ := hm_z
          have k279_z := nq_202 q278_z
          obtain ⟨v280_z, rfl⟩ := rn_ret (M := am_m202) rfl (by decide) q278_z
          replace hm_z : rn _ _ _ _ [.int v280_z] _ _ _ := hm_z
          replace hm_z := rn_if (am_cur_of (i := (46, 3, .ifCond .eq 7, (25, 0, 0), 0)) (by decide +kernel)) hm_z
          rcases hm_z with ⟨b281_z, hm_z⟩ | ⟨b281_z, hm_z⟩
          · replace b281_z : v280_z = (0 : Int32) ∧ v280_z.toInt = (0 : Int32).toInt := b281_z
            replace hm_z := rn_aload_n (am_cur_of (i := (53, 1, .aload_n 0, (0, 0, 0), 0)) (by decide +kernel)) g0_z hm_z
            replace hm_z := rn_getR (x := 174) (am_cur_of (i := (54, 3, .getfield 42, (12, 29, 1413), 0)) (by decide +kernel)) (by decide +kernel) hm_z
            replace hm_z := rn_iload_n (am_cur_of (i := (57, 1, .iload_n 1, (0, 0, 0), 0)) (by decide +kernel)) g1_z hm_z
            replace hm_z := rn_iaload (N := 12) (q := (rg_v g 164 58).toNatClampNeg) (v := rg_v h277_z 174 ((rg_v g 164 58).toNatClampNeg)) (am_cur_of (i := (58, 1, .iaload, (0, 0, 0), 0)) (by decide +kernel)) (by decide +kernel) rfl rfl hm_z
            obtain ⟨p282_z, hm_z⟩ := hm_z
            replace hm_z := rn_iret (am_cur_of (i := (59, 1, .ireturn, (0, 0, 0), 0)) (by decide +kernel)) hm_z
            obtain ⟨e283_z, e284_z⟩ := hm_z
            rw [e284_z]
            exact (nk_t nk_r k279_z)
          · replace b281_z : ¬ v280_z = (0 : Int32) ∧ ¬ v280_z.toInt = (0 : Int32).toInt := b281_z
            have H23 := (nq_201_L (r := r) (g' := g')  nst)
            exact nk_t (nk_t nk_r k279_z) (H23 _ _ hm_z)
  · replace b270_z : (0 : Int32).toInt ≤ (rg_v g 164 62).toInt := b270_z
    replace hm_z := rn_aload_n (am_cur_of (i := (7, 1, .aload_n 0, (0, 0, 0), 0)) (by decide +kernel)) g0_z hm_z
    replace hm_z := rn_getI (v := rg_v g 164 62) (am_cur_of (i := (8, 3, .getfield 106, (12, 62, 1446), 0)) (by decide +kernel)) (by decide +kernel) rfl hm_z
    replace hm_z := rn_goto (am_cur_of (i := (11, 3, .goto 7, (8, 0, 0), 0)) (by decide +kernel)) hm_z
    replace hm_z := rn_istore_n (am_cur_of (i := (18, 1, .istore_n 1, (0, 0, 0), 0)) (by decide +kernel)) hm_z
    obtain ⟨_, s285_z, s286_z, g1_z, hm_z⟩ := hm_z
    replace g0_z := s285_z 0 _ (by decide) rfl g0_z
    clear s285_z s286_z
    replace hm_z := rn_aload_n (am_cur_of (i := (19, 1, .aload_n 0, (0, 0, 0), 0)) (by decide +kernel)) g0_z hm_z
    replace hm_z := rn_getI (v := rg_v g 164 60) (am_cur_of (i := (20, 3, .getfield 352, (12, 60, 1444), 0)) (by decide +kernel)) (by decide +kernel) rfl hm_z
    replace hm_z := rn_if (am_cur_of (i := (23, 3, .ifCond .ne 26, (23, 0, 0), 0)) (by decide +kernel)) hm_z
    rcases hm_z with ⟨b287_z, hm_z⟩ | ⟨b287_z, hm_z⟩
    · replace b287_z : ¬ (rg_v g 164 60) = (0 : Int32) ∧ ¬ (rg_v g 164 60).toInt = (0 : Int32).toInt := b287_z
      have H23 := (nq_201_L (r := r) (g' := g')  nst)
      exact nk_t nk_r (H23 _ _ hm_z)
    · replace b287_z : (rg_v g 164 60) = (0 : Int32) ∧ (rg_v g 164 60).toInt = (0 : Int32).toInt := b287_z
      replace hm_z := rn_iload_n (am_cur_of (i := (26, 1, .iload_n 1, (0, 0, 0), 0)) (by decide +kernel)) g1_z hm_z
      replace hm_z := rn_if (am_cur_of (i := (27, 3, .ifCond .lt 22, (23, 0, 0), 0)) (by decide +kernel)) hm_z
      rcases hm_z with ⟨b288_z, hm_z⟩ | ⟨b288_z, hm_z⟩
      · replace b288_z : (rg_v g 164 62).toInt < (0 : Int32).toInt := b288_z
        have H23 := (nq_201_L (r := r) (g' := g')  nst)
        exact nk_t nk_r (H23 _ _ hm_z)
      · replace b288_z : (0 : Int32).toInt ≤ (rg_v g 164 62).toInt := b288_z
        replace hm_z := rn_iload_n (am_cur_of (i := (30, 1, .iload_n 1, (0, 0, 0), 0)) (by decide +kernel)) g1_z hm_z
        replace hm_z := rn_aload_n (am_cur_of (i := (31, 1, .aload_n 0, (0, 0, 0), 0)) (by decide +kernel)) g0_z hm_z
        replace hm_z := rn_getI (v := rg_v g 164 14) (am_cur_of (i := (32, 3, .getfield 225, (12, 14, 1398), 0)) (by decide +kernel)) (by decide +kernel) rfl hm_z
        replace hm_z := rn_cmp (am_cur_of (i := (35, 3, .if_icmp .ge 14, (23, 0, 0), 0)) (by decide +kernel)) hm_z
        rcases hm_z with ⟨b289_z, hm_z⟩ | ⟨b289_z, hm_z⟩
        · replace b289_z : (rg_v g 164 14).toInt ≤ (rg_v g 164 62).toInt := b289_z
          have H23 := (nq_201_L (r := r) (g' := g')  nst)
          exact nk_t nk_r (H23 _ _ hm_z)
        · replace b289_z : (rg_v g 164 62).toInt < (rg_v g 164 14).toInt := b289_z
          replace hm_z := rn_aload_n (am_cur_of (i := (38, 1, .aload_n 0, (0, 0, 0), 0)) (by decide +kernel)) g0_z hm_z
          replace hm_z := rn_getI (v := rg_v g 164 57) (am_cur_of (i := (39, 3, .getfield 349, (12, 57, 1441), 0)) (by decide +kernel)) (by decide +kernel) rfl hm_z
          replace hm_z := rn_iload_n (am_cur_of (i := (42, 1, .iload_n 1, (0, 0, 0), 0)) (by decide +kernel)) g1_z hm_z
          replace hm_z := rn_callS (M' := am_m202) (ar := [.int (rg_v g 164 62), .int (rg_v g 164 57)]) (rest := []) (L := lv_args 0 [.int (rg_v g 164 57), .int (rg_v g 164 62)]) (am_cur_of (i := (43, 3, .invokestatic 400, (202, 1840, 3), 0)) (by decide +kernel)) rfl rfl rfl rfl hm_z
          obtain ⟨r290_z, h291_z, q292_z, hm_z⟩ := hm_z
          have k293_z := nq_202 q292_z
          obtain ⟨v294_z, rfl⟩ := rn_ret (M := am_m202) rfl (by decide) q292_z
          replace hm_z : rn _ _ _ _ [.int v294_z] _ _ _ := hm_z
          replace hm_z := rn_if (am_cur_of (i := (46, 3, .ifCond .eq 7, (25, 0, 0), 0)) (by decide +kernel)) hm_z
          rcases hm_z with ⟨b295_z, hm_z⟩ | ⟨b295_z, hm_z⟩
          · replace b295_z : v294_z = (0 : Int32) ∧ v294_z.toInt = (0 : Int32).toInt := b295_z
            replace hm_z := rn_aload_n (am_cur_of (i := (53, 1, .aload_n 0, (0, 0, 0), 0)) (by decide +kernel)) g0_z hm_z
            replace hm_z := rn_getR (x := 174) (am_cur_of (i := (54, 3, .getfield 42, (12, 29, 1413), 0)) (by decide +kernel)) (by decide +kernel) hm_z
            replace hm_z := rn_iload_n (am_cur_of (i := (57, 1, .iload_n 1, (0, 0, 0), 0)) (by decide +kernel)) g1_z hm_z
            replace hm_z := rn_iaload (N := 12) (q := (rg_v g 164 62).toNatClampNeg) (v := rg_v h291_z 174 ((rg_v g 164 62).toNatClampNeg)) (am_cur_of (i := (58, 1, .iaload, (0, 0, 0), 0)) (by decide +kernel)) (by decide +kernel) rfl rfl hm_z
            obtain ⟨p296_z, hm_z⟩ := hm_z
            replace hm_z := rn_iret (am_cur_of (i := (59, 1, .ireturn, (0, 0, 0), 0)) (by decide +kernel)) hm_z
            obtain ⟨e297_z, e298_z⟩ := hm_z
            rw [e298_z]
            exact (nk_t nk_r k293_z)
          · replace b295_z : ¬ v294_z = (0 : Int32) ∧ ¬ v294_z.toInt = (0 : Int32).toInt := b295_z
            have H23 := (nq_201_L (r := r) (g' := g')  nst)
            exact nk_t (nk_t nk_r k293_z) (H23 _ _ hm_z)
theorem nq_198_L {r : Option Value} {g' : am_H} {b : Int32} {k : Int32}  : ∀ f : Nat, (∀ (ls : am_L) (g : am_H), rn f am_m198 14 ls [] g r g' → nk g g') := by
  intro f
  induction f with
  | zero =>
    exact (fun _ _ hm_z => absurd hm_z rn_0)
  | succ f ih_z =>
    have I14 := ih_z
    have H14 : ∀ (ls : am_L) (g : am_H), rn (f + 1) am_m198 14 ls [] g r g' → nk g g' := by
      intro ls g hm_z
      replace hm_z := rn_iconst (w := 0) (am_cur_of (i := (24, 1, .iconst 0, (0, 0, 0), 0)) (by decide +kernel)) (by decide) hm_z
      replace hm_z := rn_iret (am_cur_of (i := (25, 1, .ireturn, (0, 0, 0), 0)) (by decide +kernel)) hm_z
      obtain ⟨e299_z, e300_z⟩ := hm_z
      rw [e300_z]
      exact nk_r
    exact H14
theorem nq_198 {nst : Nat} {r : Option Value} {g g' : am_H} {b : Int32} {k : Int32}  (hm_z : rn nst am_m198 0 (lv_args 0 [.ref 164, .int b, .int k]) [] g r g') : nk g g' := by
  have zm1_z : ((-1) : Int32).toInt = (-1) := by decide
  have g0_z : am_get (lv_args 0 [.ref 164, .int b, .int k]) 0 = some (.ref 164) := rfl
  have g1_z : am_get (lv_args 0 [.ref 164, .int b, .int k]) 1 = some (.int b) := rfl
  have g2_z : am_get (lv_args 0 [.ref 164, .int b, .int k]) 2 = some (.int k) := rfl
  replace hm_z := rn_aload_n (am_cur_of (i := (0, 1, .aload_n 0, (0, 0, 0), 0)) (by decide +kernel)) g0_z hm_z
  replace hm_z := rn_getR (x := 190) (am_cur_of (i := (1, 3, .getfield 91, (12, 52, 1436), 0)) (by decide +kernel)) (by decide +kernel) hm_z
  replace hm_z := rn_iload_n (am_cur_of (i := (4, 1, .iload_n 1, (0, 0, 0), 0)) (by decide +kernel)) g1_z hm_z
  replace hm_z := rn_iaload (N := 4) (q := b.toNatClampNeg) (v := rg_v g 190 b.toNatClampNeg) (am_cur_of (i := (5, 1, .iaload, (0, 0, 0), 0)) (by decide +kernel)) (by decide +kernel) rfl rfl hm_z
  obtain ⟨p301_z, hm_z⟩ := hm_z
  replace hm_z := rn_iconst (w := (-1)) (am_cur_of (i := (6, 1, .iconst (-1), (0, 0, 0), 0)) (by decide +kernel)) (by decide) hm_z
  replace hm_z := rn_cmp (am_cur_of (i := (7, 3, .if_icmp .eq 17, (14, 0, 0), 0)) (by decide +kernel)) hm_z
  rcases hm_z with ⟨b302_z, hm_z⟩ | ⟨b302_z, hm_z⟩
  · replace b302_z : (rg_v g 190 b.toNatClampNeg) = ((-1) : Int32) ∧ (rg_v g 190 b.toNatClampNeg).toInt = ((-1) : Int32).toInt := b302_z
    have H14 := (nq_198_L (r := r) (g' := g') (b := b) (k := k)  nst)
    exact nk_t nk_r (H14 _ _ hm_z)
  · replace b302_z : ¬ (rg_v g 190 b.toNatClampNeg) = ((-1) : Int32) ∧ ¬ (rg_v g 190 b.toNatClampNeg).toInt = ((-1) : Int32).toInt := b302_z
    replace hm_z := rn_aload_n (am_cur_of (i := (10, 1, .aload_n 0, (0, 0, 0), 0)) (by decide +kernel)) g0_z hm_z
    replace hm_z := rn_getR (x := 190) (am_cur_of (i := (11, 3, .getfield 91, (12, 52, 1436), 0)) (by decide +kernel)) (by decide +kernel) hm_z
    replace hm_z := rn_iload_n (am_cur_of (i := (14, 1, .iload_n 1, (0, 0, 0), 0)) (by decide +kernel)) g1_z hm_z
    replace hm_z := rn_iaload (N := 4) (q := b.toNatClampNeg) (v := rg_v g 190 b.toNatClampNeg) (am_cur_of (i := (15, 1, .iaload, (0, 0, 0), 0)) (by decide +kernel)) (by decide +kernel) rfl rfl hm_z
    obtain ⟨p303_z, hm_z⟩ := hm_z
    replace hm_z := rn_iload_n (am_cur_of (i := (16, 1, .iload_n 2, (0, 0, 0), 0)) (by decide +kernel)) g2_z hm_z
    replace hm_z := rn_cmp (am_cur_of (i := (17, 3, .if_icmp .eq 7, (14, 0, 0), 0)) (by decide +kernel)) hm_z
    rcases hm_z with ⟨b304_z, hm_z⟩ | ⟨b304_z, hm_z⟩
    · replace b304_z : (rg_v g 190 b.toNatClampNeg) = k ∧ (rg_v g 190 b.toNatClampNeg).toInt = k.toInt := b304_z
      have H14 := (nq_198_L (r := r) (g' := g') (b := b) (k := k)  nst)
      exact nk_t nk_r (H14 _ _ hm_z)
    · replace b304_z : ¬ (rg_v g 190 b.toNatClampNeg) = k ∧ ¬ (rg_v g 190 b.toNatClampNeg).toInt = k.toInt := b304_z
      replace hm_z := rn_iconst (w := 1) (am_cur_of (i := (20, 1, .iconst 1, (0, 0, 0), 0)) (by decide +kernel)) (by decide) hm_z
      replace hm_z := rn_goto (am_cur_of (i := (21, 3, .goto 4, (15, 0, 0), 0)) (by decide +kernel)) hm_z
      replace hm_z := rn_iret (am_cur_of (i := (25, 1, .ireturn, (0, 0, 0), 0)) (by decide +kernel)) hm_z
      obtain ⟨e305_z, e306_z⟩ := hm_z
      rw [e306_z]
      exact nk_r
