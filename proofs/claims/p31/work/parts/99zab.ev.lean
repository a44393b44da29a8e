set_option maxHeartbeats 400000
/-! ===== valueOf OF THE CLASS (wip/r/gen99sk.py) ===== -/
/-- one knot over the stack (its last value first) -/
def lvS (o v : Int32) (N : Nat → Int64) (S : List Int) : Option (List Int) := if o = 0 ∨ o = 1 then (if 64 ≤ S.length then none else some ((if o = 0 then v.toInt else (N v.toNatClampNeg).toInt) :: S)) else if o = 5 then (match S with
  | x :: s => some ((if x = 0 then 1 else 0) :: s)
  | [] => none) else (match S with
  | b :: a :: s => (match jZ o a b with
    | some z => some (z :: s)
    | none => none)
  | _ => none)
/-- m knots from f on -/
def lvF (O V : Nat → Int32) (N : Nat → Int64) (f : Nat) : Nat → Option (List Int)
  | 0 => some []
  | m + 1 => match lvF O V N f m with
    | some S => lvS (O (f + m)) (V (f + m)) N S
    | none => none
def lvR (q : Option (List Int)) : Option Int := match q with
  | some [x] => some x
  | _ => none
/-- what the class answers: the value or ERROR -/
def lR (q : Option Int) (w : Int) : Prop := match q with
  | some z => w = z
  | none => w = -9223372036854775808
def sd (h : am_H) (c : Nat) : List Int → Prop
  | [] => True
  | x :: t => (rg_l h c t.length).toInt = x ∧ sd h c t
theorem sd_up {h : am_H} {c q : Nat} {v : Value} : ∀ S : List Int, S.length ≤ q → sd h c S → sd (am_up h c q v) c S
  | [], _, _ => trivial
  | x :: t, hl_z, s => by
    rw [List.length_cons] at hl_z
    refine ⟨?_, sd_up t (by omega) s.2⟩
    rw [rg_l_other (by omega)]
    exact s.1
theorem sd_put {h : am_H} {c q : Nat} {v : Int64} {S : List Int} (e : q = S.length) (s : sd h c S) : sd (am_up h c q (.long v)) c (v.toInt :: S) := by
  refine ⟨?_, sd_up S (by omega) s⟩
  rw [← e, rg_l_self]
theorem lvF_s {O V : Nat → Int32} {N : Nat → Int64} {f m : Nat} {S : List Int} (e : lvF O V N f m = some S) : lvF O V N f (m + 1) = lvS (O (f + m)) (V (f + m)) N S := by
  show (match lvF O V N f m with
    | some S => lvS (O (f + m)) (V (f + m)) N S
    | none => none) = _
  rw [e]
theorem lvF_n {O V : Nat → Int32} {N : Nat → Int64} {f m : Nat} (e : lvF O V N f m = none) : ∀ k, lvF O V N f (m + k) = none
  | 0 => e
  | k + 1 => by
    show (match lvF O V N f (m + k) with
      | some S => lvS (O (f + (m + k))) (V (f + (m + k))) N S
      | none => none) = none
    rw [lvF_n e k]
theorem lvF_e {O V : Nat → Int32} {N : Nat → Int64} {f m k : Nat} {S : List Int} (e : lvF O V N f m = some S) (p : lvS (O (f + m)) (V (f + m)) N S = none) (hk_z : m + 1 ≤ k) : lvR (lvF O V N f k) = none := by
  have q := lvF_n ((lvF_s e).trans p) (k - (m + 1))
  rw [show m + 1 + (k - (m + 1)) = k by omega] at q
  rw [q]
  rfl
theorem lvR_1 {S : List Int} (h : ¬ S.length = 1) : lvR (some S) = none := by
  match S, h with
  | [], _ => rfl
  | [x], h => exact absurd rfl h
  | x :: y :: s, _ => rfl
theorem lvS_0 {v : Int32} {N : Nat → Int64} {S : List Int} (h : S.length < 64) : lvS 0 v N S = some (v.toInt :: S) := by
  unfold lvS
  rw [if_pos (Or.inl rfl), if_neg (by omega), if_pos rfl]
theorem lvS_1 {v : Int32} {N : Nat → Int64} {S : List Int} (h : S.length < 64) : lvS 1 v N S = some ((N v.toNatClampNeg).toInt :: S) := by
  unfold lvS
  rw [if_pos (Or.inr rfl), if_neg (by omega), if_neg (by decide)]
theorem lvS_9 {o v : Int32} {N : Nat → Int64} {S : List Int} (ho : o = 0 ∨ o = 1) (h : 64 ≤ S.length) : lvS o v N S = none := by
  unfold lvS
  rw [if_pos ho, if_pos h]
theorem lvS_5 {v : Int32} {N : Nat → Int64} {x : Int} {s : List Int} : lvS 5 v N (x :: s) = some ((if x = 0 then 1 else 0) :: s) := by
  unfold lvS
  rw [if_neg (by decide), if_pos rfl]
theorem lvS_50 {v : Int32} {N : Nat → Int64} : lvS 5 v N [] = none := by
  unfold lvS
  rw [if_neg (by decide), if_pos rfl]
theorem lvS_j {o v : Int32} {N : Nat → Int64} {a b z : Int} {s : List Int} (n0_z : ¬ o = 0) (n1_z : ¬ o = 1) (n5_z : ¬ o = 5) (e : jZ o a b = some z) : lvS o v N (b :: a :: s) = some (z :: s) := by
  unfold lvS
  rw [if_neg (fun q => q.elim n0_z n1_z), if_neg n5_z]
  show (match jZ o a b with
    | some z => some (z :: s)
    | none => none) = _
  rw [e]
theorem lvS_jn {o v : Int32} {N : Nat → Int64} {a b : Int} {s : List Int} (n0_z : ¬ o = 0) (n1_z : ¬ o = 1) (n5_z : ¬ o = 5) (e : jZ o a b = none) : lvS o v N (b :: a :: s) = none := by
  unfold lvS
  rw [if_neg (fun q => q.elim n0_z n1_z), if_neg n5_z]
  show (match jZ o a b with
    | some z => some (z :: s)
    | none => none) = _
  rw [e]
theorem lvS_j2 {o v : Int32} {N : Nat → Int64} {S : List Int} (n0_z : ¬ o = 0) (n1_z : ¬ o = 1) (n5_z : ¬ o = 5) (h : S.length < 2) : lvS o v N S = none := by
  unfold lvS
  rw [if_neg (fun q => q.elim n0_z n1_z), if_neg n5_z]
  match S, h with
  | [], _ => rfl
  | [x], _ => rfl
  | x :: y :: s, h => exact absurd h (by rw [List.length_cons, List.length_cons]; omega)
theorem okW_out {o : Int32} {a b w : Int} (A : lB a) (ok : okW (jZ o a b) w) (h : w < -1000000000000 ∨ 1000000000000 < w) : jZ o a b = none := by
  match e : jZ o a b with
  | none => rfl
  | some z =>
    rw [e] at ok
    have q : w = z := ok
    have r := jZ_b A e
    unfold lB at r
    omega
theorem okW_in {o : Int32} {a b w : Int} (ok : okW (jZ o a b) w) (h : -1000000000000 ≤ w ∧ w ≤ 1000000000000) : jZ o a b = some w := by
  match e : jZ o a b with
  | none =>
    rw [e] at ok
    have q : w < -1000000000000 ∨ 1000000000000 < w := ok
    omega
  | some z =>
    rw [e] at ok
    have q : w = z := ok
    rw [q]
theorem lw_tm {x : Int32} (h : 1 ≤ x.toInt) : ∃ u : Int32, x + (-1) = u ∧ u.toInt = x.toInt - 1 := by
  refine ⟨x + (-1), rfl, ?_⟩
  have q := ab_32 x
  have z : (-1 : Int32).toInt = -1 := by decide
  rw [ab_iadd (x := x) (y := -1) (by rw [z]; omega) (by rw [z]; omega), z]
  rfl
theorem lB_32 (x : Int32) : lB x.toInt := by
  have q := ab_32 x
  unfold lB
  omega
theorem lB_01 {p : Prop} [Decidable p] : lB (if p then 1 else 0) := by
  split
  · exact ⟨by decide, by decide⟩
  · exact ⟨by decide, by decide⟩
theorem vl_66_2 {r : Option Value} {h' : am_H} {kd t : Int32} {O V : Nat → Int32} {N : Nat → Int64} {f0_z T : Nat} (eTT : t.toInt = (T : Int)) (hN : ∀ i, f0_z ≤ i → i < T → O i = 1 → lB (N (V i).toNatClampNeg).toInt) : ∀ (f m : Nat) (top i : Int32) (S : List Int) (ls : am_L) (h : am_H), am_get ls 0 = some (.ref 11) → am_get ls 1 = some (.int kd) → am_get ls 2 = some (.int top) → am_get ls 3 = some (.int i) → top.toInt = (S.length : Int) → i.toInt = (f0_z : Int) + m → f0_z + m ≤ T → lvF O V N f0_z m = some S → (∀ x ∈ S, lB x) → sd h 18 S → (∀ q, rg_v h 12 q = O q) → (∀ q, rg_v h 13 q = V q) → (∀ q, rg_l h 17 q = N q) → rg_v h 15 kd.toNatClampNeg = t → rn f am_m66 7 ls [] h r h' → ∃ w : Int64, r = some (.long w) ∧ lR (lvR (lvF O V N f0_z (T - f0_z))) w.toInt ∧ ∀ o k, ¬ o = 18 → h' o k = h o k := by
  intro f
  induction f with
  | zero => intro m top i S ls h g0_z g1_z g2_z g3_z eT hi_z hT hS hB hs_z eO eV eN et hc_z; exact absurd hc_z rn_0
  | succ f ih_z =>
    intro m top i S ls h g0_z g1_z g2_z g3_z eT hi_z hT hS hB hs_z eO eV eN et hc_z
    have z0_z : (0 : Int32).toInt = 0 := by decide
    have z1_z : (1 : Int32).toInt = 1 := by decide
    have z2_z : (2 : Int32).toInt = 2 := by decide
    have z5_z : (5 : Int32).toInt = 5 := by decide
    have z64_z : (64 : Int32).toInt = 64 := by decide
    have zM := lw_M
    have zm := lw_m
    have zz := lw_z
    have tt9_z := ab_32 t
    have tp9_z := ab_32 top
    replace hc_z := rn_iload_n (am_cur_of (i := (9, 1, .iload_n 3, (0, 0, 0), 0)) (by decide +kernel)) g3_z hc_z
    replace hc_z := rn_aload_n (am_cur_of (i := (10, 1, .aload_n 0, (0, 0, 0), 0)) (by decide +kernel)) g0_z hc_z
    replace hc_z := rn_getR (x := 15) (am_cur_of (i := (11, 3, .getfield 21, (2, 5, 170), 0)) (by decide +kernel)) (by decide +kernel) hc_z
    replace hc_z := rn_iload_n (am_cur_of (i := (14, 1, .iload_n 1, (0, 0, 0), 0)) (by decide +kernel)) g1_z hc_z
    replace hc_z := rn_iaload (N := 3) (q := kd.toNatClampNeg) (v := t) (am_cur_of (i := (15, 1, .iaload, (0, 0, 0), 0)) (by decide +kernel)) (by decide +kernel) rfl et hc_z
    obtain ⟨p102_z, hc_z⟩ := hc_z
    replace hc_z := rn_cmp (am_cur_of (i := (16, 3, .if_icmp .ge 185, (114, 0, 0), 0)) (by decide +kernel)) hc_z
    rcases hc_z with ⟨b103_z, hc_z⟩ | ⟨b103_z, hc_z⟩
    · replace b103_z : t.toInt ≤ i.toInt := b103_z
      replace hc_z := rn_iload_n (am_cur_of (i := (201, 1, .iload_n 2, (0, 0, 0), 0)) (by decide +kernel)) g2_z hc_z
      replace hc_z := rn_iconst (w := 1) (am_cur_of (i := (202, 1, .iconst 1, (0, 0, 0), 0)) (by decide +kernel)) (by decide) hc_z
      replace hc_z := rn_cmp (am_cur_of (i := (203, 3, .if_icmp .ne 12, (122, 0, 0), 0)) (by decide +kernel)) hc_z
      rcases hc_z with ⟨b104_z, hc_z⟩ | ⟨b104_z, hc_z⟩
      · replace b104_z : ¬ top = (1 : Int32) ∧ ¬ top.toInt = (1 : Int32).toInt := b104_z
        replace hc_z := rn_ldc2 (w := (-9223372036854775808)) (am_cur_of (i := (215, 3, .ldc2_w 42, (0, 0, 929), (-9223372036854775808))) (by decide +kernel)) (by decide) hc_z
        replace hc_z := rn_lret (am_cur_of (i := (218, 1, .lreturn, (0, 0, 0), 0)) (by decide +kernel)) hc_z
        obtain ⟨e105_z, e106_z⟩ := hc_z
        refine ⟨_, e105_z, ?_, fun o k _ => by rw [e106_z]⟩
        have ee : T - f0_z = m := by omega
        rw [ee, hS]
        rw [lvR_1 (by intro q; rw [q] at eT; omega)]
        exact lw_E
      · replace b104_z : top = (1 : Int32) ∧ top.toInt = (1 : Int32).toInt := b104_z
        replace hc_z := rn_aload_n (am_cur_of (i := (206, 1, .aload_n 0, (0, 0, 0), 0)) (by decide +kernel)) g0_z hc_z
        replace hc_z := rn_getR (x := 18) (am_cur_of (i := (207, 3, .getfield 32, (2, 8, 175), 0)) (by decide +kernel)) (by decide +kernel) hc_z
        replace hc_z := rn_iconst (w := 0) (am_cur_of (i := (210, 1, .iconst 0, (0, 0, 0), 0)) (by decide +kernel)) (by decide) hc_z
        replace hc_z := rn_laload (N := 64) (q := 0) (v := rg_l h 18 0) (am_cur_of (i := (211, 1, .laload, (0, 0, 0), 0)) (by decide +kernel)) (by decide +kernel) rfl rfl hc_z
        obtain ⟨p107_z, hc_z⟩ := hc_z
        replace hc_z := rn_goto (am_cur_of (i := (212, 3, .goto 6, (123, 0, 0), 0)) (by decide +kernel)) hc_z
        replace hc_z := rn_lret (am_cur_of (i := (218, 1, .lreturn, (0, 0, 0), 0)) (by decide +kernel)) hc_z
        obtain ⟨e108_z, e109_z⟩ := hc_z
        refine ⟨_, e108_z, ?_, fun o k _ => by rw [e109_z]⟩
        have ee : T - f0_z = m := by omega
        rw [ee, hS]
        obtain ⟨x0_z, eS⟩ : ∃ x, S = [x] := by
          match S, eT with
          | [], q => exact absurd q (by rw [List.length_nil]; omega)
          | [x], _ => exact ⟨x, rfl⟩
          | x :: y :: s, q => exact absurd q (by rw [List.length_cons, List.length_cons]; omega)
        subst eS
        exact hs_z.1
    · replace b103_z : i.toInt < t.toInt := b103_z
      have ci_z : i.toNatClampNeg = f0_z + m := by
        have q := rt_cl (x := i) (by omega)
        omega
      have i1_z := ab_iadd (x := i) (y := 1) (by omega) (by omega)
      have ct := rt_cl (x := top) (by omega)
      replace hc_z := rn_aload_n (am_cur_of (i := (19, 1, .aload_n 0, (0, 0, 0), 0)) (by decide +kernel)) g0_z hc_z
      replace hc_z := rn_getR (x := 12) (am_cur_of (i := (20, 3, .getfield 9, (2, 2, 167), 0)) (by decide +kernel)) (by decide +kernel) hc_z
      replace hc_z := rn_iload_n (am_cur_of (i := (23, 1, .iload_n 3, (0, 0, 0), 0)) (by decide +kernel)) g3_z hc_z
      replace hc_z := rn_iaload (N := 64) (q := i.toNatClampNeg) (v := O i.toNatClampNeg) (am_cur_of (i := (24, 1, .iaload, (0, 0, 0), 0)) (by decide +kernel)) (by decide +kernel) rfl (eO _) hc_z
      obtain ⟨p110_z, hc_z⟩ := hc_z
      replace hc_z := rn_istore (am_cur_of (i := (25, 2, .istore 4, (0, 0, 0), 0)) (by decide +kernel)) hc_z
      obtain ⟨_, s111_z, s112_z, g4_z, hc_z⟩ := hc_z
      replace g0_z := s111_z 0 _ (by decide) rfl g0_z
      replace g1_z := s111_z 1 _ (by decide) rfl g1_z
      replace g2_z := s111_z 2 _ (by decide) rfl g2_z
      replace g3_z := s111_z 3 _ (by decide) rfl g3_z
      clear s111_z s112_z
      replace hc_z := rn_iload (am_cur_of (i := (27, 2, .iload 4, (0, 0, 0), 0)) (by decide +kernel)) g4_z hc_z
      replace hc_z := rn_if (am_cur_of (i := (29, 3, .ifCond .eq 9, (23, 0, 0), 0)) (by decide +kernel)) hc_z
      rcases hc_z with ⟨b113_z, hc_z⟩ | ⟨b113_z, hc_z⟩
      · replace b113_z : (O i.toNatClampNeg) = (0 : Int32) ∧ (O i.toNatClampNeg).toInt = (0 : Int32).toInt := b113_z
        replace hc_z := rn_iload_n (am_cur_of (i := (38, 1, .iload_n 2, (0, 0, 0), 0)) (by decide +kernel)) g2_z hc_z
        replace hc_z := rn_bipush (w := 64) (am_cur_of (i := (39, 2, .bipush 64, (0, 0, 0), 0)) (by decide +kernel)) (by decide) hc_z
        replace hc_z := rn_cmp (am_cur_of (i := (41, 3, .if_icmp .lt 7, (28, 0, 0), 0)) (by decide +kernel)) hc_z
        rcases hc_z with ⟨b114_z, hc_z⟩ | ⟨b114_z, hc_z⟩
        · replace b114_z : top.toInt < (64 : Int32).toInt := b114_z
          have t1_z := rt_c1 (x := top) (by omega) (by omega)
          replace hc_z := rn_aload_n (am_cur_of (i := (48, 1, .aload_n 0, (0, 0, 0), 0)) (by decide +kernel)) g0_z hc_z
          replace hc_z := rn_getR (x := 18) (am_cur_of (i := (49, 3, .getfield 32, (2, 8, 175), 0)) (by decide +kernel)) (by decide +kernel) hc_z
          replace hc_z := rn_iload_n (am_cur_of (i := (52, 1, .iload_n 2, (0, 0, 0), 0)) (by decide +kernel)) g2_z hc_z
          replace hc_z := rn_iload (am_cur_of (i := (53, 2, .iload 4, (0, 0, 0), 0)) (by decide +kernel)) g4_z hc_z
          replace hc_z := ((rn_if (am_cur_of (i := (55, 3, .ifCond .ne 13, (39, 0, 0), 0)) (by decide +kernel)) hc_z).resolve_left (fun q => absurd q.1 (fun z => z.1 b113_z.1))).2
          replace hc_z := rn_aload_n (am_cur_of (i := (58, 1, .aload_n 0, (0, 0, 0), 0)) (by decide +kernel)) g0_z hc_z
          replace hc_z := rn_getR (x := 13) (am_cur_of (i := (59, 3, .getfield 15, (2, 3, 168), 0)) (by decide +kernel)) (by decide +kernel) hc_z
          replace hc_z := rn_iload_n (am_cur_of (i := (62, 1, .iload_n 3, (0, 0, 0), 0)) (by decide +kernel)) g3_z hc_z
          replace hc_z := rn_iaload (N := 64) (q := i.toNatClampNeg) (v := V i.toNatClampNeg) (am_cur_of (i := (63, 1, .iaload, (0, 0, 0), 0)) (by decide +kernel)) (by decide +kernel) rfl (eV _) hc_z
          obtain ⟨p116_z, hc_z⟩ := hc_z
          replace hc_z := rn_i2l (w := (V i.toNatClampNeg).toInt64) (am_cur_of (i := (64, 1, .i2l, (0, 0, 0), 0)) (by decide +kernel)) rfl hc_z
          replace hc_z := rn_goto (am_cur_of (i := (65, 3, .goto 14, (46, 0, 0), 0)) (by decide +kernel)) hc_z
          replace hc_z := rn_lastore (N := 64) (q := top.toNatClampNeg) (am_cur_of (i := (79, 1, .lastore, (0, 0, 0), 0)) (by decide +kernel)) (by decide +kernel) rfl hc_z
          obtain ⟨p117_z, hc_z⟩ := hc_z
          replace hc_z := rn_iinc (w := top + 1) (am_cur_of (i := (80, 3, .iinc 2 1, (0, 0, 0), 0)) (by decide +kernel)) g2_z rfl hc_z
          obtain ⟨_, s118_z, s119_z, g2_z, hc_z⟩ := hc_z
          replace g0_z := s118_z 0 _ (by decide) rfl g0_z
          replace g1_z := s118_z 1 _ (by decide) rfl g1_z
          replace g3_z := s118_z 3 _ (by decide) rfl g3_z
          replace g4_z := s118_z 4 _ (by decide) rfl g4_z
          clear s118_z s119_z
          replace hc_z := rn_goto (am_cur_of (i := (83, 3, .goto 112, (112, 0, 0), 0)) (by decide +kernel)) hc_z
          replace hc_z := rn_iinc (w := i + 1) (am_cur_of (i := (195, 3, .iinc 3 1, (0, 0, 0), 0)) (by decide +kernel)) g3_z rfl hc_z
          obtain ⟨_, s120_z, s121_z, g3_z, hc_z⟩ := hc_z
          replace g0_z := s120_z 0 _ (by decide) rfl g0_z
          replace g1_z := s120_z 1 _ (by decide) rfl g1_z
          replace g2_z := s120_z 2 _ (by decide) rfl g2_z
          replace g4_z := s120_z 4 _ (by decide) rfl g4_z
          clear s120_z s121_z
          replace hc_z := rn_gotoL (am_cur_of (i := (198, 3, .goto (-189), (7, 0, 0), 0)) (by decide +kernel)) hc_z
          have ps : lvS (O i.toNatClampNeg) (V i.toNatClampNeg) N S = some ((V i.toNatClampNeg).toInt :: S) := by
            rw [b113_z.1]
            exact lvS_0 (by omega)
          have sq : sd (am_up h 18 top.toNatClampNeg (.long ((V i.toNatClampNeg).toInt64))) 18 ((V i.toNatClampNeg).toInt :: S) := by
            rw [← Int32.toInt_toInt64 (V i.toNatClampNeg)]
            exact sd_put (by omega) hs_z
          replace ps : lvS (O (f0_z + m)) (V (f0_z + m)) N S = some ((V i.toNatClampNeg).toInt :: S) := by
            rw [← ci_z]
            exact ps
          obtain ⟨w2_z, q1_z, q2_z, q3_z⟩ := ih_z (m + 1) (top + 1) (i + 1) ((V i.toNatClampNeg).toInt :: S) _ _ g0_z g1_z g2_z g3_z (by rw [List.length_cons]; omega) (by omega) (by omega) ((lvF_s hS).trans ps) (fun x hx_z => by
              rcases List.mem_cons.mp hx_z with e | e
              · rw [e]; exact lB_32 _
              · exact hB x e) sq (fun q => eO q) (fun q => eV q) (fun q => eN q) et hc_z
          exact ⟨w2_z, q1_z, q2_z, fun o k ho => (q3_z o k ho).trans (up_ne (fun z => ho z.1))⟩
        · replace b114_z : (64 : Int32).toInt ≤ top.toInt := b114_z
          replace hc_z := rn_ldc2 (w := (-9223372036854775808)) (am_cur_of (i := (44, 3, .ldc2_w 42, (0, 0, 929), (-9223372036854775808))) (by decide +kernel)) (by decide) hc_z
          replace hc_z := rn_lret (am_cur_of (i := (47, 1, .lreturn, (0, 0, 0), 0)) (by decide +kernel)) hc_z
          obtain ⟨e122_z, e123_z⟩ := hc_z
          refine ⟨_, e122_z, ?_, fun o k _ => by rw [e123_z]⟩
          have pn : lvS (O i.toNatClampNeg) (V i.toNatClampNeg) N (S) = none := lvS_9 (Or.inl b113_z.1) (by omega)
          rw [ci_z] at pn
          rw [lvF_e hS pn (by omega)]
          exact lw_E
      · replace b113_z : ¬ (O i.toNatClampNeg) = (0 : Int32) ∧ ¬ (O i.toNatClampNeg).toInt = (0 : Int32).toInt := b113_z
        replace hc_z := rn_iload (am_cur_of (i := (32, 2, .iload 4, (0, 0, 0), 0)) (by decide +kernel)) g4_z hc_z
        replace hc_z := rn_iconst (w := 1) (am_cur_of (i := (34, 1, .iconst 1, (0, 0, 0), 0)) (by decide +kernel)) (by decide) hc_z
        replace hc_z := rn_cmp (am_cur_of (i := (35, 3, .if_icmp .ne 51, (49, 0, 0), 0)) (by decide +kernel)) hc_z
        rcases hc_z with ⟨b124_z, hc_z⟩ | ⟨b124_z, hc_z⟩
        · replace b124_z : ¬ (O i.toNatClampNeg) = (1 : Int32) ∧ ¬ (O i.toNatClampNeg).toInt = (1 : Int32).toInt := b124_z
          replace hc_z := rn_iload (am_cur_of (i := (86, 2, .iload 4, (0, 0, 0), 0)) (by decide +kernel)) g4_z hc_z
          replace hc_z := rn_iconst (w := 5) (am_cur_of (i := (88, 1, .iconst 5, (0, 0, 0), 0)) (by decide +kernel)) (by decide) hc_z
          replace hc_z := rn_cmp (am_cur_of (i := (89, 3, .if_icmp .ne 41, (76, 0, 0), 0)) (by decide +kernel)) hc_z
          rcases hc_z with ⟨b125_z, hc_z⟩ | ⟨b125_z, hc_z⟩
          · replace b125_z : ¬ (O i.toNatClampNeg) = (5 : Int32) ∧ ¬ (O i.toNatClampNeg).toInt = (5 : Int32).toInt := b125_z
            replace hc_z := rn_iload_n (am_cur_of (i := (130, 1, .iload_n 2, (0, 0, 0), 0)) (by decide +kernel)) g2_z hc_z
            replace hc_z := rn_iconst (w := 2) (am_cur_of (i := (131, 1, .iconst 2, (0, 0, 0), 0)) (by decide +kernel)) (by decide) hc_z
            replace hc_z := rn_cmp (am_cur_of (i := (132, 3, .if_icmp .ge 7, (81, 0, 0), 0)) (by decide +kernel)) hc_z
            rcases hc_z with ⟨b126_z, hc_z⟩ | ⟨b126_z, hc_z⟩
            · replace b126_z : (2 : Int32).toInt ≤ top.toInt := b126_z
              obtain ⟨x0_z, y0_z, s0_z, eS⟩ : ∃ x y s, S = x :: y :: s := by
                match S, eT with
                | [], q => exact absurd q (by rw [List.length_nil]; omega)
                | [x], q => exact absurd q (by rw [List.length_cons, List.length_nil]; omega)
                | x :: y :: s, _ => exact ⟨x, y, s, rfl⟩
              subst eS
              rw [List.length_cons, List.length_cons] at eT
              obtain ⟨u, eu, ut⟩ := lw_tm (x := top) (by omega)
              have u1_z := ab_isub (x := u) (y := 1) (by omega) (by omega)
              have c0_z := rt_cl (x := u) (by omega)
              have c1_z := rt_cl (x := u - 1) (by omega)
              have ix : u.toNatClampNeg = s0_z.length + 1 := by omega
              have iy : (u - 1).toNatClampNeg = s0_z.length := by omega
              have ex : (rg_l h 18 u.toNatClampNeg).toInt = x0_z := by
                rw [ix]
                exact hs_z.1
              have ey : (rg_l h 18 (u - 1).toNatClampNeg).toInt = y0_z := by
                rw [iy]
                exact hs_z.2.1
              have bx : lB x0_z := hB x0_z (List.mem_cons_self ..)
              have by_ : lB y0_z := hB y0_z (List.mem_cons_of_mem _ (List.mem_cons_self ..))
              replace hc_z := rn_iinc (w := u) (am_cur_of (i := (139, 3, .iinc 2 (-1), (0, 0, 0), 0)) (by decide +kernel)) g2_z ((congrArg (fun z => top + z) (show Int32.ofInt (-1) = (-1) by decide)).trans eu) hc_z
              obtain ⟨_, s127_z, s128_z, g2_z, hc_z⟩ := hc_z
              replace g0_z := s127_z 0 _ (by decide) rfl g0_z
              replace g1_z := s127_z 1 _ (by decide) rfl g1_z
              replace g3_z := s127_z 3 _ (by decide) rfl g3_z
              replace g4_z := s127_z 4 _ (by decide) rfl g4_z
              clear s127_z s128_z
              replace hc_z := rn_iload (am_cur_of (i := (142, 2, .iload 4, (0, 0, 0), 0)) (by decide +kernel)) g4_z hc_z
              replace hc_z := rn_aload_n (am_cur_of (i := (144, 1, .aload_n 0, (0, 0, 0), 0)) (by decide +kernel)) g0_z hc_z
              replace hc_z := rn_getR (x := 18) (am_cur_of (i := (145, 3, .getfield 32, (2, 8, 175), 0)) (by decide +kernel)) (by decide +kernel) hc_z
              replace hc_z := rn_iload_n (am_cur_of (i := (148, 1, .iload_n 2, (0, 0, 0), 0)) (by decide +kernel)) g2_z hc_z
              replace hc_z := rn_iconst (w := 1) (am_cur_of (i := (149, 1, .iconst 1, (0, 0, 0), 0)) (by decide +kernel)) (by decide) hc_z
              replace hc_z := rn_isub (w := u - 1) (am_cur_of (i := (150, 1, .isub, (0, 0, 0), 0)) (by decide +kernel)) rfl hc_z
              replace hc_z := rn_laload (N := 64) (q := (u - 1).toNatClampNeg) (v := rg_l h 18 ((u - 1).toNatClampNeg)) (am_cur_of (i := (151, 1, .laload, (0, 0, 0), 0)) (by decide +kernel)) (by decide +kernel) rfl rfl hc_z
              obtain ⟨p129_z, hc_z⟩ := hc_z
              replace hc_z := rn_aload_n (am_cur_of (i := (152, 1, .aload_n 0, (0, 0, 0), 0)) (by decide +kernel)) g0_z hc_z
              replace hc_z := rn_getR (x := 18) (am_cur_of (i := (153, 3, .getfield 32, (2, 8, 175), 0)) (by decide +kernel)) (by decide +kernel) hc_z
              replace hc_z := rn_iload_n (am_cur_of (i := (156, 1, .iload_n 2, (0, 0, 0), 0)) (by decide +kernel)) g2_z hc_z
              replace hc_z := rn_laload (N := 64) (q := u.toNatClampNeg) (v := rg_l h 18 u.toNatClampNeg) (am_cur_of (i := (157, 1, .laload, (0, 0, 0), 0)) (by decide +kernel)) (by decide +kernel) rfl rfl hc_z
              obtain ⟨p130_z, hc_z⟩ := hc_z
              replace hc_z := rn_callS (M' := am_m67) (ar := [.long (rg_l h 18 u.toNatClampNeg), .long (rg_l h 18 ((u - 1).toNatClampNeg)), .int (O i.toNatClampNeg)]) (rest := []) (L := lv_args 0 [.int (O i.toNatClampNeg), .long (rg_l h 18 ((u - 1).toNatClampNeg)), .long (rg_l h 18 u.toNatClampNeg)]) (am_cur_of (i := (158, 3, .invokestatic 44, (67, 930, 3), 0)) (by decide +kernel)) rfl rfl rfl rfl hc_z
              obtain ⟨r131_z, h132_z, q133_z, hc_z⟩ := hc_z
              obtain ⟨wj, rr, hh, ok⟩ := jn_67 (by rw [ey]; exact by_) (by rw [ex]; exact bx) q133_z
              rw [ex, ey] at ok
              replace hh := hh.symm
              subst rr
              subst hh
              replace hc_z : rn _ _ _ _ [.long wj] _ _ _ := hc_z
              replace hc_z := rn_lstore (am_cur_of (i := (161, 2, .lstore 5, (0, 0, 0), 0)) (by decide +kernel)) hc_z
              obtain ⟨_, s134_z, s135_z, g5_z, hc_z⟩ := hc_z
              replace g0_z := s134_z 0 _ (by decide) (by decide) rfl g0_z
              replace g1_z := s134_z 1 _ (by decide) (by decide) rfl g1_z
              replace g2_z := s134_z 2 _ (by decide) (by decide) rfl g2_z
              replace g3_z := s134_z 3 _ (by decide) (by decide) rfl g3_z
              replace g4_z := s134_z 4 _ (by decide) (by decide) rfl g4_z
              clear s134_z s135_z
              replace hc_z := rn_lload (am_cur_of (i := (163, 2, .lload 5, (0, 0, 0), 0)) (by decide +kernel)) g5_z hc_z
              replace hc_z := rn_ldc2 (w := 1000000000000) (am_cur_of (i := (165, 3, .ldc2_w 48, (0, 0, 933), 1000000000000)) (by decide +kernel)) (by decide) hc_z
              replace hc_z := rn_lcmp (w := lg_cmp wj 1000000000000) (am_cur_of (i := (168, 1, .lcmp, (0, 0, 0), 0)) (by decide +kernel)) rfl hc_z
              replace hc_z := rn_if (am_cur_of (i := (169, 3, .ifCond .gt 12, (103, 0, 0), 0)) (by decide +kernel)) hc_z
              rcases hc_z with ⟨b136_z, hc_z⟩ | ⟨b136_z, hc_z⟩
              · replace b136_z : (0 : Int32).toInt < (lg_cmp wj 1000000000000).toInt := b136_z
                replace b136_z := lgc_gt b136_z
                replace hc_z := rn_ldc2 (w := (-9223372036854775808)) (am_cur_of (i := (181, 3, .ldc2_w 42, (0, 0, 929), (-9223372036854775808))) (by decide +kernel)) (by decide) hc_z
                replace hc_z := rn_lret (am_cur_of (i := (184, 1, .lreturn, (0, 0, 0), 0)) (by decide +kernel)) hc_z
                obtain ⟨e137_z, e138_z⟩ := hc_z
                refine ⟨_, e137_z, ?_, fun o k _ => by rw [e138_z]⟩
                have pn : lvS (O i.toNatClampNeg) (V i.toNatClampNeg) N (x0_z :: y0_z :: s0_z) = none := lvS_jn b113_z.1 b124_z.1 b125_z.1 (okW_out by_ ok (by omega))
                rw [ci_z] at pn
                rw [lvF_e hS pn (by omega)]
                exact lw_E
              · replace b136_z : (lg_cmp wj 1000000000000).toInt ≤ (0 : Int32).toInt := b136_z
                replace b136_z := lgc_le b136_z
                replace hc_z := rn_lload (am_cur_of (i := (172, 2, .lload 5, (0, 0, 0), 0)) (by decide +kernel)) g5_z hc_z
                replace hc_z := rn_ldc2 (w := (-1000000000000)) (am_cur_of (i := (174, 3, .ldc2_w 50, (0, 0, 934), (-1000000000000))) (by decide +kernel)) (by decide) hc_z
                replace hc_z := rn_lcmp (w := lg_cmp wj (-1000000000000)) (am_cur_of (i := (177, 1, .lcmp, (0, 0, 0), 0)) (by decide +kernel)) rfl hc_z
                replace hc_z := rn_if (am_cur_of (i := (178, 3, .ifCond .ge 7, (105, 0, 0), 0)) (by decide +kernel)) hc_z
                rcases hc_z with ⟨b139_z, hc_z⟩ | ⟨b139_z, hc_z⟩
                · replace b139_z : (0 : Int32).toInt ≤ (lg_cmp wj (-1000000000000)).toInt := b139_z
                  replace b139_z := lgc_ge b139_z
                  replace hc_z := rn_aload_n (am_cur_of (i := (185, 1, .aload_n 0, (0, 0, 0), 0)) (by decide +kernel)) g0_z hc_z
                  replace hc_z := rn_getR (x := 18) (am_cur_of (i := (186, 3, .getfield 32, (2, 8, 175), 0)) (by decide +kernel)) (by decide +kernel) hc_z
                  replace hc_z := rn_iload_n (am_cur_of (i := (189, 1, .iload_n 2, (0, 0, 0), 0)) (by decide +kernel)) g2_z hc_z
                  replace hc_z := rn_iconst (w := 1) (am_cur_of (i := (190, 1, .iconst 1, (0, 0, 0), 0)) (by decide +kernel)) (by decide) hc_z
                  replace hc_z := rn_isub (w := u - 1) (am_cur_of (i := (191, 1, .isub, (0, 0, 0), 0)) (by decide +kernel)) rfl hc_z
                  replace hc_z := rn_lload (am_cur_of (i := (192, 2, .lload 5, (0, 0, 0), 0)) (by decide +kernel)) g5_z hc_z
                  replace hc_z := rn_lastore (N := 64) (q := (u - 1).toNatClampNeg) (am_cur_of (i := (194, 1, .lastore, (0, 0, 0), 0)) (by decide +kernel)) (by decide +kernel) rfl hc_z
                  obtain ⟨p140_z, hc_z⟩ := hc_z
                  replace hc_z := rn_iinc (w := i + 1) (am_cur_of (i := (195, 3, .iinc 3 1, (0, 0, 0), 0)) (by decide +kernel)) g3_z rfl hc_z
                  obtain ⟨_, s141_z, s142_z, g3_z, hc_z⟩ := hc_z
                  replace g0_z := s141_z 0 _ (by decide) rfl g0_z
                  replace g1_z := s141_z 1 _ (by decide) rfl g1_z
                  replace g2_z := s141_z 2 _ (by decide) rfl g2_z
                  replace g4_z := s141_z 4 _ (by decide) rfl g4_z
                  replace g5_z := s142_z 5 _ (by decide) (by decide) g5_z
                  clear s141_z s142_z
                  replace hc_z := rn_gotoL (am_cur_of (i := (198, 3, .goto (-189), (7, 0, 0), 0)) (by decide +kernel)) hc_z
                  have pj := okW_in ok ⟨by omega, by omega⟩
                  have ps : lvS (O i.toNatClampNeg) (V i.toNatClampNeg) N (x0_z :: y0_z :: s0_z) = some (wj.toInt :: s0_z) := lvS_j b113_z.1 b124_z.1 b125_z.1 pj
                  have sq : sd (am_up h 18 ((u - 1).toNatClampNeg) (.long wj)) 18 (wj.toInt :: s0_z) := sd_put (v := wj) iy hs_z.2.2
                  replace ps : lvS (O (f0_z + m)) (V (f0_z + m)) N (x0_z :: y0_z :: s0_z) = some (wj.toInt :: s0_z) := by
                    rw [← ci_z]
                    exact ps
                  obtain ⟨w2_z, q1_z, q2_z, q3_z⟩ := ih_z (m + 1) u (i + 1) (wj.toInt :: s0_z) _ _ g0_z g1_z g2_z g3_z (by rw [List.length_cons]; omega) (by omega) (by omega) ((lvF_s hS).trans ps) (fun x hx_z => by
                      rcases List.mem_cons.mp hx_z with e | e
                      · rw [e]; exact jZ_b by_ pj
                      · exact hB x (List.mem_cons_of_mem _ (List.mem_cons_of_mem _ e))) sq (fun q => eO q) (fun q => eV q) (fun q => eN q) et hc_z
                  exact ⟨w2_z, q1_z, q2_z, fun o k ho => (q3_z o k ho).trans (up_ne (fun z => ho z.1))⟩
                · replace b139_z : (lg_cmp wj (-1000000000000)).toInt < (0 : Int32).toInt := b139_z
                  replace b139_z := lgc_lt b139_z
                  replace hc_z := rn_ldc2 (w := (-9223372036854775808)) (am_cur_of (i := (181, 3, .ldc2_w 42, (0, 0, 929), (-9223372036854775808))) (by decide +kernel)) (by decide) hc_z
                  replace hc_z := rn_lret (am_cur_of (i := (184, 1, .lreturn, (0, 0, 0), 0)) (by decide +kernel)) hc_z
                  obtain ⟨e143_z, e144_z⟩ := hc_z
                  refine ⟨_, e143_z, ?_, fun o k _ => by rw [e144_z]⟩
                  have pn : lvS (O i.toNatClampNeg) (V i.toNatClampNeg) N (x0_z :: y0_z :: s0_z) = none := lvS_jn b113_z.1 b124_z.1 b125_z.1 (okW_out by_ ok (by omega))
                  rw [ci_z] at pn
                  rw [lvF_e hS pn (by omega)]
                  exact lw_E
            · replace b126_z : top.toInt < (2 : Int32).toInt := b126_z
              replace hc_z := rn_ldc2 (w := (-9223372036854775808)) (am_cur_of (i := (135, 3, .ldc2_w 42, (0, 0, 929), (-9223372036854775808))) (by decide +kernel)) (by decide) hc_z
              replace hc_z := rn_lret (am_cur_of (i := (138, 1, .lreturn, (0, 0, 0), 0)) (by decide +kernel)) hc_z
              obtain ⟨e145_z, e146_z⟩ := hc_z
              refine ⟨_, e145_z, ?_, fun o k _ => by rw [e146_z]⟩
              have pn : lvS (O i.toNatClampNeg) (V i.toNatClampNeg) N (S) = none := lvS_j2 b113_z.1 b124_z.1 b125_z.1 (by omega)
              rw [ci_z] at pn
              rw [lvF_e hS pn (by omega)]
              exact lw_E
          · replace b125_z : (O i.toNatClampNeg) = (5 : Int32) ∧ (O i.toNatClampNeg).toInt = (5 : Int32).toInt := b125_z
            replace hc_z := rn_iload_n (am_cur_of (i := (92, 1, .iload_n 2, (0, 0, 0), 0)) (by decide +kernel)) g2_z hc_z
            replace hc_z := rn_iconst (w := 1) (am_cur_of (i := (93, 1, .iconst 1, (0, 0, 0), 0)) (by decide +kernel)) (by decide) hc_z
            replace hc_z := rn_cmp (am_cur_of (i := (94, 3, .if_icmp .ge 7, (57, 0, 0), 0)) (by decide +kernel)) hc_z
            rcases hc_z with ⟨b147_z, hc_z⟩ | ⟨b147_z, hc_z⟩
            · replace b147_z : (1 : Int32).toInt ≤ top.toInt := b147_z
              obtain ⟨x0_z, s0_z, eS⟩ : ∃ x s, S = x :: s := by
                match S, eT with
                | [], q => exact absurd q (by rw [List.length_nil]; omega)
                | x :: s, _ => exact ⟨x, s, rfl⟩
              subst eS
              rw [List.length_cons] at eT
              have u1_z := ab_isub (x := top) (y := 1) (by omega) (by omega)
              have c1_z := rt_cl (x := top - 1) (by omega)
              have ix : (top - 1).toNatClampNeg = s0_z.length := by omega
              have ex : (rg_l h 18 (top - 1).toNatClampNeg).toInt = x0_z := by
                rw [ix]
                exact hs_z.1
              replace hc_z := rn_aload_n (am_cur_of (i := (101, 1, .aload_n 0, (0, 0, 0), 0)) (by decide +kernel)) g0_z hc_z
              replace hc_z := rn_getR (x := 18) (am_cur_of (i := (102, 3, .getfield 32, (2, 8, 175), 0)) (by decide +kernel)) (by decide +kernel) hc_z
              replace hc_z := rn_iload_n (am_cur_of (i := (105, 1, .iload_n 2, (0, 0, 0), 0)) (by decide +kernel)) g2_z hc_z
              replace hc_z := rn_iconst (w := 1) (am_cur_of (i := (106, 1, .iconst 1, (0, 0, 0), 0)) (by decide +kernel)) (by decide) hc_z
              replace hc_z := rn_isub (w := top - 1) (am_cur_of (i := (107, 1, .isub, (0, 0, 0), 0)) (by decide +kernel)) rfl hc_z
              replace hc_z := rn_aload_n (am_cur_of (i := (108, 1, .aload_n 0, (0, 0, 0), 0)) (by decide +kernel)) g0_z hc_z
              replace hc_z := rn_getR (x := 18) (am_cur_of (i := (109, 3, .getfield 32, (2, 8, 175), 0)) (by decide +kernel)) (by decide +kernel) hc_z
              replace hc_z := rn_iload_n (am_cur_of (i := (112, 1, .iload_n 2, (0, 0, 0), 0)) (by decide +kernel)) g2_z hc_z
              replace hc_z := rn_iconst (w := 1) (am_cur_of (i := (113, 1, .iconst 1, (0, 0, 0), 0)) (by decide +kernel)) (by decide) hc_z
              replace hc_z := rn_isub (w := top - 1) (am_cur_of (i := (114, 1, .isub, (0, 0, 0), 0)) (by decide +kernel)) rfl hc_z
              replace hc_z := rn_laload (N := 64) (q := (top - 1).toNatClampNeg) (v := rg_l h 18 ((top - 1).toNatClampNeg)) (am_cur_of (i := (115, 1, .laload, (0, 0, 0), 0)) (by decide +kernel)) (by decide +kernel) rfl rfl hc_z
              obtain ⟨p148_z, hc_z⟩ := hc_z
              replace hc_z := rn_lconst (w := 0) (am_cur_of (i := (116, 1, .lconst 0, (0, 0, 0), 0)) (by decide +kernel)) rfl hc_z
              replace hc_z := rn_lcmp (w := lg_cmp (rg_l h 18 ((top - 1).toNatClampNeg)) 0) (am_cur_of (i := (117, 1, .lcmp, (0, 0, 0), 0)) (by decide +kernel)) rfl hc_z
              replace hc_z := rn_if (am_cur_of (i := (118, 3, .ifCond .ne 7, (73, 0, 0), 0)) (by decide +kernel)) hc_z
              rcases hc_z with ⟨b149_z, hc_z⟩ | ⟨b149_z, hc_z⟩
              · replace b149_z : ¬ (lg_cmp (rg_l h 18 ((top - 1).toNatClampNeg)) 0) = (0 : Int32) ∧ ¬ (lg_cmp (rg_l h 18 ((top - 1).toNatClampNeg)) 0).toInt = (0 : Int32).toInt := b149_z
                replace b149_z := lgc_ne b149_z
                replace hc_z := rn_lconst (w := 0) (am_cur_of (i := (125, 1, .lconst 0, (0, 0, 0), 0)) (by decide +kernel)) rfl hc_z
                replace hc_z := rn_lastore (N := 64) (q := (top - 1).toNatClampNeg) (am_cur_of (i := (126, 1, .lastore, (0, 0, 0), 0)) (by decide +kernel)) (by decide +kernel) rfl hc_z
                obtain ⟨p150_z, hc_z⟩ := hc_z
                replace hc_z := rn_goto (am_cur_of (i := (127, 3, .goto 68, (112, 0, 0), 0)) (by decide +kernel)) hc_z
                replace hc_z := rn_iinc (w := i + 1) (am_cur_of (i := (195, 3, .iinc 3 1, (0, 0, 0), 0)) (by decide +kernel)) g3_z rfl hc_z
                obtain ⟨_, s151_z, s152_z, g3_z, hc_z⟩ := hc_z
                replace g0_z := s151_z 0 _ (by decide) rfl g0_z
                replace g1_z := s151_z 1 _ (by decide) rfl g1_z
                replace g2_z := s151_z 2 _ (by decide) rfl g2_z
                replace g4_z := s151_z 4 _ (by decide) rfl g4_z
                clear s151_z s152_z
                replace hc_z := rn_gotoL (am_cur_of (i := (198, 3, .goto (-189), (7, 0, 0), 0)) (by decide +kernel)) hc_z
                have ps : lvS (O i.toNatClampNeg) (V i.toNatClampNeg) N (x0_z :: s0_z) = some (0 :: s0_z) := by
                  rw [b125_z.1, lvS_5, if_neg (by omega)]
                have sq : sd (am_up h 18 ((top - 1).toNatClampNeg) (.long 0)) 18 (0 :: s0_z) := by
                  have e := sd_put (c := 18) (v := 0) ix hs_z.2
                  rw [show (0 : Int64).toInt = 0 by decide] at e
                  exact e
                replace ps : lvS (O (f0_z + m)) (V (f0_z + m)) N (x0_z :: s0_z) = some (0 :: s0_z) := by
                  rw [← ci_z]
                  exact ps
                obtain ⟨w2_z, q1_z, q2_z, q3_z⟩ := ih_z (m + 1) top (i + 1) (0 :: s0_z) _ _ g0_z g1_z g2_z g3_z (by rw [List.length_cons]; omega) (by omega) (by omega) ((lvF_s hS).trans ps) (fun x hx_z => by
                    rcases List.mem_cons.mp hx_z with e | e
                    · rw [e]; exact ⟨by decide, by decide⟩
                    · exact hB x (List.mem_cons_of_mem _ e)) sq (fun q => eO q) (fun q => eV q) (fun q => eN q) et hc_z
                exact ⟨w2_z, q1_z, q2_z, fun o k ho => (q3_z o k ho).trans (up_ne (fun z => ho z.1))⟩
              · replace b149_z : (lg_cmp (rg_l h 18 ((top - 1).toNatClampNeg)) 0) = (0 : Int32) ∧ (lg_cmp (rg_l h 18 ((top - 1).toNatClampNeg)) 0).toInt = (0 : Int32).toInt := b149_z
                replace b149_z := lgc_eq b149_z
                replace hc_z := rn_lconst (w := 1) (am_cur_of (i := (121, 1, .lconst 1, (0, 0, 0), 0)) (by decide +kernel)) rfl hc_z
                replace hc_z := rn_goto (am_cur_of (i := (122, 3, .goto 4, (74, 0, 0), 0)) (by decide +kernel)) hc_z
                replace hc_z := rn_lastore (N := 64) (q := (top - 1).toNatClampNeg) (am_cur_of (i := (126, 1, .lastore, (0, 0, 0), 0)) (by decide +kernel)) (by decide +kernel) rfl hc_z
                obtain ⟨p153_z, hc_z⟩ := hc_z
                replace hc_z := rn_goto (am_cur_of (i := (127, 3, .goto 68, (112, 0, 0), 0)) (by decide +kernel)) hc_z
                replace hc_z := rn_iinc (w := i + 1) (am_cur_of (i := (195, 3, .iinc 3 1, (0, 0, 0), 0)) (by decide +kernel)) g3_z rfl hc_z
                obtain ⟨_, s154_z, s155_z, g3_z, hc_z⟩ := hc_z
                replace g0_z := s154_z 0 _ (by decide) rfl g0_z
                replace g1_z := s154_z 1 _ (by decide) rfl g1_z
                replace g2_z := s154_z 2 _ (by decide) rfl g2_z
                replace g4_z := s154_z 4 _ (by decide) rfl g4_z
                clear s154_z s155_z
                replace hc_z := rn_gotoL (am_cur_of (i := (198, 3, .goto (-189), (7, 0, 0), 0)) (by decide +kernel)) hc_z
                have ps : lvS (O i.toNatClampNeg) (V i.toNatClampNeg) N (x0_z :: s0_z) = some (1 :: s0_z) := by
                  rw [b125_z.1, lvS_5, if_pos (by omega)]
                have sq : sd (am_up h 18 ((top - 1).toNatClampNeg) (.long 1)) 18 (1 :: s0_z) := by
                  have e := sd_put (c := 18) (v := 1) ix hs_z.2
                  rw [show (1 : Int64).toInt = 1 by decide] at e
                  exact e
                replace ps : lvS (O (f0_z + m)) (V (f0_z + m)) N (x0_z :: s0_z) = some (1 :: s0_z) := by
                  rw [← ci_z]
                  exact ps
                obtain ⟨w2_z, q1_z, q2_z, q3_z⟩ := ih_z (m + 1) top (i + 1) (1 :: s0_z) _ _ g0_z g1_z g2_z g3_z (by rw [List.length_cons]; omega) (by omega) (by omega) ((lvF_s hS).trans ps) (fun x hx_z => by
                    rcases List.mem_cons.mp hx_z with e | e
                    · rw [e]; exact ⟨by decide, by decide⟩
                    · exact hB x (List.mem_cons_of_mem _ e)) sq (fun q => eO q) (fun q => eV q) (fun q => eN q) et hc_z
                exact ⟨w2_z, q1_z, q2_z, fun o k ho => (q3_z o k ho).trans (up_ne (fun z => ho z.1))⟩
            · replace b147_z : top.toInt < (1 : Int32).toInt := b147_z
              replace hc_z := rn_ldc2 (w := (-9223372036854775808)) (am_cur_of (i := (97, 3, .ldc2_w 42, (0, 0, 929), (-9223372036854775808))) (by decide +kernel)) (by decide) hc_z
              replace hc_z := rn_lret (am_cur_of (i := (100, 1, .lreturn, (0, 0, 0), 0)) (by decide +kernel)) hc_z
              obtain ⟨e156_z, e157_z⟩ := hc_z
              refine ⟨_, e156_z, ?_, fun o k _ => by rw [e157_z]⟩
              have eS : S = [] := by
                match S, eT with
                | [], _ => rfl
                | x :: s, q => exact absurd q (by rw [List.length_cons]; omega)
              have pn : lvS (O i.toNatClampNeg) (V i.toNatClampNeg) N (S) = none := by rw [b125_z.1, eS]; exact lvS_50
              rw [ci_z] at pn
              rw [lvF_e hS pn (by omega)]
              exact lw_E
        · replace b124_z : (O i.toNatClampNeg) = (1 : Int32) ∧ (O i.toNatClampNeg).toInt = (1 : Int32).toInt := b124_z
          replace hc_z := rn_iload_n (am_cur_of (i := (38, 1, .iload_n 2, (0, 0, 0), 0)) (by decide +kernel)) g2_z hc_z
          replace hc_z := rn_bipush (w := 64) (am_cur_of (i := (39, 2, .bipush 64, (0, 0, 0), 0)) (by decide +kernel)) (by decide) hc_z
          replace hc_z := rn_cmp (am_cur_of (i := (41, 3, .if_icmp .lt 7, (28, 0, 0), 0)) (by decide +kernel)) hc_z
          rcases hc_z with ⟨b158_z, hc_z⟩ | ⟨b158_z, hc_z⟩
          · replace b158_z : top.toInt < (64 : Int32).toInt := b158_z
            have t1_z := rt_c1 (x := top) (by omega) (by omega)
            replace hc_z := rn_aload_n (am_cur_of (i := (48, 1, .aload_n 0, (0, 0, 0), 0)) (by decide +kernel)) g0_z hc_z
            replace hc_z := rn_getR (x := 18) (am_cur_of (i := (49, 3, .getfield 32, (2, 8, 175), 0)) (by decide +kernel)) (by decide +kernel) hc_z
            replace hc_z := rn_iload_n (am_cur_of (i := (52, 1, .iload_n 2, (0, 0, 0), 0)) (by decide +kernel)) g2_z hc_z
            replace hc_z := rn_iload (am_cur_of (i := (53, 2, .iload 4, (0, 0, 0), 0)) (by decide +kernel)) g4_z hc_z
            replace hc_z := ((rn_if (am_cur_of (i := (55, 3, .ifCond .ne 13, (39, 0, 0), 0)) (by decide +kernel)) hc_z).resolve_right (fun q => absurd q.1 (fun z => b113_z.1 z.1))).2
            replace hc_z := rn_aload_n (am_cur_of (i := (68, 1, .aload_n 0, (0, 0, 0), 0)) (by decide +kernel)) g0_z hc_z
            replace hc_z := rn_getR (x := 17) (am_cur_of (i := (69, 3, .getfield 28, (2, 7, 173), 0)) (by decide +kernel)) (by decide +kernel) hc_z
            replace hc_z := rn_aload_n (am_cur_of (i := (72, 1, .aload_n 0, (0, 0, 0), 0)) (by decide +kernel)) g0_z hc_z
            replace hc_z := rn_getR (x := 13) (am_cur_of (i := (73, 3, .getfield 15, (2, 3, 168), 0)) (by decide +kernel)) (by decide +kernel) hc_z
            replace hc_z := rn_iload_n (am_cur_of (i := (76, 1, .iload_n 3, (0, 0, 0), 0)) (by decide +kernel)) g3_z hc_z
            replace hc_z := rn_iaload (N := 64) (q := i.toNatClampNeg) (v := V i.toNatClampNeg) (am_cur_of (i := (77, 1, .iaload, (0, 0, 0), 0)) (by decide +kernel)) (by decide +kernel) rfl (eV _) hc_z
            obtain ⟨p160_z, hc_z⟩ := hc_z
            replace hc_z := rn_laload (N := 6) (q := (V i.toNatClampNeg).toNatClampNeg) (v := N ((V i.toNatClampNeg).toNatClampNeg)) (am_cur_of (i := (78, 1, .laload, (0, 0, 0), 0)) (by decide +kernel)) (by decide +kernel) rfl (eN _) hc_z
            obtain ⟨p161_z, hc_z⟩ := hc_z
            replace hc_z := rn_lastore (N := 64) (q := top.toNatClampNeg) (am_cur_of (i := (79, 1, .lastore, (0, 0, 0), 0)) (by decide +kernel)) (by decide +kernel) rfl hc_z
            obtain ⟨p162_z, hc_z⟩ := hc_z
            replace hc_z := rn_iinc (w := top + 1) (am_cur_of (i := (80, 3, .iinc 2 1, (0, 0, 0), 0)) (by decide +kernel)) g2_z rfl hc_z
            obtain ⟨_, s163_z, s164_z, g2_z, hc_z⟩ := hc_z
            replace g0_z := s163_z 0 _ (by decide) rfl g0_z
            replace g1_z := s163_z 1 _ (by decide) rfl g1_z
            replace g3_z := s163_z 3 _ (by decide) rfl g3_z
            replace g4_z := s163_z 4 _ (by decide) rfl g4_z
            clear s163_z s164_z
            replace hc_z := rn_goto (am_cur_of (i := (83, 3, .goto 112, (112, 0, 0), 0)) (by decide +kernel)) hc_z
            replace hc_z := rn_iinc (w := i + 1) (am_cur_of (i := (195, 3, .iinc 3 1, (0, 0, 0), 0)) (by decide +kernel)) g3_z rfl hc_z
            obtain ⟨_, s165_z, s166_z, g3_z, hc_z⟩ := hc_z
            replace g0_z := s165_z 0 _ (by decide) rfl g0_z
            replace g1_z := s165_z 1 _ (by decide) rfl g1_z
            replace g2_z := s165_z 2 _ (by decide) rfl g2_z
            replace g4_z := s165_z 4 _ (by decide) rfl g4_z
            clear s165_z s166_z
            replace hc_z := rn_gotoL (am_cur_of (i := (198, 3, .goto (-189), (7, 0, 0), 0)) (by decide +kernel)) hc_z
            have ps : lvS (O i.toNatClampNeg) (V i.toNatClampNeg) N S = some ((N (V i.toNatClampNeg).toNatClampNeg).toInt :: S) := by
              rw [b124_z.1]
              exact lvS_1 (by omega)
            have sq : sd (am_up h 18 top.toNatClampNeg (.long (N ((V i.toNatClampNeg).toNatClampNeg)))) 18 ((N (V i.toNatClampNeg).toNatClampNeg).toInt :: S) := sd_put (by omega) hs_z
            replace ps : lvS (O (f0_z + m)) (V (f0_z + m)) N S = some ((N (V i.toNatClampNeg).toNatClampNeg).toInt :: S) := by
              rw [← ci_z]
              exact ps
            obtain ⟨w2_z, q1_z, q2_z, q3_z⟩ := ih_z (m + 1) (top + 1) (i + 1) ((N (V i.toNatClampNeg).toNatClampNeg).toInt :: S) _ _ g0_z g1_z g2_z g3_z (by rw [List.length_cons]; omega) (by omega) (by omega) ((lvF_s hS).trans ps) (fun x hx_z => by
                rcases List.mem_cons.mp hx_z with e | e
                · rw [e]; exact hN i.toNatClampNeg (by omega) (by omega) b124_z.1
                · exact hB x e) sq (fun q => eO q) (fun q => eV q) (fun q => eN q) et hc_z
            exact ⟨w2_z, q1_z, q2_z, fun o k ho => (q3_z o k ho).trans (up_ne (fun z => ho z.1))⟩
          · replace b158_z : (64 : Int32).toInt ≤ top.toInt := b158_z
            replace hc_z := rn_ldc2 (w := (-9223372036854775808)) (am_cur_of (i := (44, 3, .ldc2_w 42, (0, 0, 929), (-9223372036854775808))) (by decide +kernel)) (by decide) hc_z
            replace hc_z := rn_lret (am_cur_of (i := (47, 1, .lreturn, (0, 0, 0), 0)) (by decide +kernel)) hc_z
            obtain ⟨e167_z, e168_z⟩ := hc_z
            refine ⟨_, e167_z, ?_, fun o k _ => by rw [e168_z]⟩
            have pn : lvS (O i.toNatClampNeg) (V i.toNatClampNeg) N (S) = none := lvS_9 (Or.inr b124_z.1) (by omega)
            rw [ci_z] at pn
            rw [lvF_e hS pn (by omega)]
            exact lw_E
theorem vo_66_2 {n : Nat} {r : Option Value} {h h' : am_H} {kd t : Int32} {O V : Nat → Int32} {N : Nat → Int64} {f0_z T : Nat} (eTT : t.toInt = (T : Int)) (hN : ∀ i, f0_z ≤ i → i < T → O i = 1 → lB (N (V i).toNatClampNeg).toInt) (hT : f0_z + 0 ≤ T) (ef : (rg_v h 14 kd.toNatClampNeg).toInt = (f0_z : Int)) (eO : ∀ q, rg_v h 12 q = O q) (eV : ∀ q, rg_v h 13 q = V q) (eN : ∀ q, rg_l h 17 q = N q) (et : rg_v h 15 kd.toNatClampNeg = t) (hc_z : rn n am_m66 0 (lv_args 0 [.ref 11, .int kd]) [] h r h') : ∃ w : Int64, r = some (.long w) ∧ lR (lvR (lvF O V N f0_z (T - f0_z))) w.toInt ∧ ∀ o k, ¬ o = 18 → h' o k = h o k := by
  have g0_z : am_get (lv_args 0 [.ref 11, .int kd]) 0 = some (.ref 11) := rfl
  have g1_z : am_get (lv_args 0 [.ref 11, .int kd]) 1 = some (.int kd) := rfl
  replace hc_z := rn_iconst (w := 0) (am_cur_of (i := (0, 1, .iconst 0, (0, 0, 0), 0)) (by decide +kernel)) (by decide) hc_z
  replace hc_z := rn_istore_n (am_cur_of (i := (1, 1, .istore_n 2, (0, 0, 0), 0)) (by decide +kernel)) hc_z
  obtain ⟨_, s169_z, s170_z, g2_z, hc_z⟩ := hc_z
  replace g0_z := s169_z 0 _ (by decide) rfl g0_z
  replace g1_z := s169_z 1 _ (by decide) rfl g1_z
  clear s169_z s170_z
  replace hc_z := rn_aload_n (am_cur_of (i := (2, 1, .aload_n 0, (0, 0, 0), 0)) (by decide +kernel)) g0_z hc_z
  replace hc_z := rn_getR (x := 14) (am_cur_of (i := (3, 3, .getfield 18, (2, 4, 169), 0)) (by decide +kernel)) (by decide +kernel) hc_z
  replace hc_z := rn_iload_n (am_cur_of (i := (6, 1, .iload_n 1, (0, 0, 0), 0)) (by decide +kernel)) g1_z hc_z
  replace hc_z := rn_iaload (N := 3) (q := kd.toNatClampNeg) (v := rg_v h 14 kd.toNatClampNeg) (am_cur_of (i := (7, 1, .iaload, (0, 0, 0), 0)) (by decide +kernel)) (by decide +kernel) rfl rfl hc_z
  obtain ⟨p171_z, hc_z⟩ := hc_z
  replace hc_z := rn_istore_n (am_cur_of (i := (8, 1, .istore_n 3, (0, 0, 0), 0)) (by decide +kernel)) hc_z
  obtain ⟨_, s172_z, s173_z, g3_z, hc_z⟩ := hc_z
  replace g0_z := s172_z 0 _ (by decide) rfl g0_z
  replace g1_z := s172_z 1 _ (by decide) rfl g1_z
  replace g2_z := s172_z 2 _ (by decide) rfl g2_z
  clear s172_z s173_z
  exact vl_66_2 eTT hN _ 0 0 _ [] _ _ g0_z g1_z g2_z g3_z (by decide) (by rw [ef]; omega) hT rfl (fun x hx_z => by cases hx_z) trivial eO eV eN et hc_z
theorem vl_66_23 {r : Option Value} {h' : am_H} {kd t : Int32} {O V : Nat → Int32} {N : Nat → Int64} {f0_z T : Nat} (eTT : t.toInt = (T : Int)) (hN : ∀ i, f0_z ≤ i → i < T → O i = 1 → lB (N (V i).toNatClampNeg).toInt) : ∀ (f m : Nat) (top i : Int32) (S : List Int) (ls : am_L) (h : am_H), am_get ls 0 = some (.ref 32) → am_get ls 1 = some (.int kd) → am_get ls 2 = some (.int top) → am_get ls 3 = some (.int i) → top.toInt = (S.length : Int) → i.toInt = (f0_z : Int) + m → f0_z + m ≤ T → lvF O V N f0_z m = some S → (∀ x ∈ S, lB x) → sd h 39 S → (∀ q, rg_v h 33 q = O q) → (∀ q, rg_v h 34 q = V q) → (∀ q, rg_l h 38 q = N q) → rg_v h 36 kd.toNatClampNeg = t → rn f am_m66 7 ls [] h r h' → ∃ w : Int64, r = some (.long w) ∧ lR (lvR (lvF O V N f0_z (T - f0_z))) w.toInt ∧ ∀ o k, ¬ o = 39 → h' o k = h o k := by
  intro f
  induction f with
  | zero => intro m top i S ls h g0_z g1_z g2_z g3_z eT hi_z hT hS hB hs_z eO eV eN et hc_z; exact absurd hc_z rn_0
  | succ f ih_z =>
    intro m top i S ls h g0_z g1_z g2_z g3_z eT hi_z hT hS hB hs_z eO eV eN et hc_z
    have z0_z : (0 : Int32).toInt = 0 := by decide
    have z1_z : (1 : Int32).toInt = 1 := by decide
    have z2_z : (2 : Int32).toInt = 2 := by decide
    have z5_z : (5 : Int32).toInt = 5 := by decide
    have z64_z : (64 : Int32).toInt = 64 := by decide
    have zM := lw_M
    have zm := lw_m
    have zz := lw_z
    have tt9_z := ab_32 t
    have tp9_z := ab_32 top
    replace hc_z := rn_iload_n (am_cur_of (i := (9, 1, .iload_n 3, (0, 0, 0), 0)) (by decide +kernel)) g3_z hc_z
    replace hc_z := rn_aload_n (am_cur_of (i := (10, 1, .aload_n 0, (0, 0, 0), 0)) (by decide +kernel)) g0_z hc_z
    replace hc_z := rn_getR (x := 36) (am_cur_of (i := (11, 3, .getfield 21, (2, 5, 170), 0)) (by decide +kernel)) (by decide +kernel) hc_z
    replace hc_z := rn_iload_n (am_cur_of (i := (14, 1, .iload_n 1, (0, 0, 0), 0)) (by decide +kernel)) g1_z hc_z
    replace hc_z := rn_iaload (N := 3) (q := kd.toNatClampNeg) (v := t) (am_cur_of (i := (15, 1, .iaload, (0, 0, 0), 0)) (by decide +kernel)) (by decide +kernel) rfl et hc_z
    obtain ⟨p174_z, hc_z⟩ := hc_z
    replace hc_z := rn_cmp (am_cur_of (i := (16, 3, .if_icmp .ge 185, (114, 0, 0), 0)) (by decide +kernel)) hc_z
    rcases hc_z with ⟨b175_z, hc_z⟩ | ⟨b175_z, hc_z⟩
    · replace b175_z : t.toInt ≤ i.toInt := b175_z
      replace hc_z := rn_iload_n (am_cur_of (i := (201, 1, .iload_n 2, (0, 0, 0), 0)) (by decide +kernel)) g2_z hc_z
      replace hc_z := rn_iconst (w := 1) (am_cur_of (i := (202, 1, .iconst 1, (0, 0, 0), 0)) (by decide +kernel)) (by decide) hc_z
      replace hc_z := rn_cmp (am_cur_of (i := (203, 3, .if_icmp .ne 12, (122, 0, 0), 0)) (by decide +kernel)) hc_z
      rcases hc_z with ⟨b176_z, hc_z⟩ | ⟨b176_z, hc_z⟩
      · replace b176_z : ¬ top = (1 : Int32) ∧ ¬ top.toInt = (1 : Int32).toInt := b176_z
        replace hc_z := rn_ldc2 (w := (-9223372036854775808)) (am_cur_of (i := (215, 3, .ldc2_w 42, (0, 0, 929), (-9223372036854775808))) (by decide +kernel)) (by decide) hc_z
        replace hc_z := rn_lret (am_cur_of (i := (218, 1, .lreturn, (0, 0, 0), 0)) (by decide +kernel)) hc_z
        obtain ⟨e177_z, e178_z⟩ := hc_z
        refine ⟨_, e177_z, ?_, fun o k _ => by rw [e178_z]⟩
        have ee : T - f0_z = m := by omega
        rw [ee, hS]
        rw [lvR_1 (by intro q; rw [q] at eT; omega)]
        exact lw_E
      · replace b176_z : top = (1 : Int32) ∧ top.toInt = (1 : Int32).toInt := b176_z
        replace hc_z := rn_aload_n (am_cur_of (i := (206, 1, .aload_n 0, (0, 0, 0), 0)) (by decide +kernel)) g0_z hc_z
        replace hc_z := rn_getR (x := 39) (am_cur_of (i := (207, 3, .getfield 32, (2, 8, 175), 0)) (by decide +kernel)) (by decide +kernel) hc_z
        replace hc_z := rn_iconst (w := 0) (am_cur_of (i := (210, 1, .iconst 0, (0, 0, 0), 0)) (by decide +kernel)) (by decide) hc_z
        replace hc_z := rn_laload (N := 64) (q := 0) (v := rg_l h 39 0) (am_cur_of (i := (211, 1, .laload, (0, 0, 0), 0)) (by decide +kernel)) (by decide +kernel) rfl rfl hc_z
        obtain ⟨p179_z, hc_z⟩ := hc_z
        replace hc_z := rn_goto (am_cur_of (i := (212, 3, .goto 6, (123, 0, 0), 0)) (by decide +kernel)) hc_z
        replace hc_z := rn_lret (am_cur_of (i := (218, 1, .lreturn, (0, 0, 0), 0)) (by decide +kernel)) hc_z
        obtain ⟨e180_z, e181_z⟩ := hc_z
        refine ⟨_, e180_z, ?_, fun o k _ => by rw [e181_z]⟩
        have ee : T - f0_z = m := by omega
        rw [ee, hS]
        obtain ⟨x0_z, eS⟩ : ∃ x, S = [x] := by
          match S, eT with
          | [], q => exact absurd q (by rw [List.length_nil]; omega)
          | [x], _ => exact ⟨x, rfl⟩
          | x :: y :: s, q => exact absurd q (by rw [List.length_cons, List.length_cons]; omega)
        subst eS
        exact hs_z.1
    · replace b175_z : i.toInt < t.toInt := b175_z
      have ci_z : i.toNatClampNeg = f0_z + m := by
        have q := rt_cl (x := i) (by omega)
        omega
      have i1_z := ab_iadd (x := i) (y := 1) (by omega) (by omega)
      have ct := rt_cl (x := top) (by omega)
      replace hc_z := rn_aload_n (am_cur_of (i := (19, 1, .aload_n 0, (0, 0, 0), 0)) (by decide +kernel)) g0_z hc_z
      replace hc_z := rn_getR (x := 33) (am_cur_of (i := (20, 3, .getfield 9, (2, 2, 167), 0)) (by decide +kernel)) (by decide +kernel) hc_z
      replace hc_z := rn_iload_n (am_cur_of (i := (23, 1, .iload_n 3, (0, 0, 0), 0)) (by decide +kernel)) g3_z hc_z
      replace hc_z := rn_iaload (N := 64) (q := i.toNatClampNeg) (v := O i.toNatClampNeg) (am_cur_of (i := (24, 1, .iaload, (0, 0, 0), 0)) (by decide +kernel)) (by decide +kernel) rfl (eO _) hc_z
      obtain ⟨p182_z, hc_z⟩ := hc_z
      replace hc_z := rn_istore (am_cur_of (i := (25, 2, .istore 4, (0, 0, 0), 0)) (by decide +kernel)) hc_z
      obtain ⟨_, s183_z, s184_z, g4_z, hc_z⟩ := hc_z
      replace g0_z := s183_z 0 _ (by decide) rfl g0_z
      replace g1_z := s183_z 1 _ (by decide) rfl g1_z
      replace g2_z := s183_z 2 _ (by decide) rfl g2_z
      replace g3_z := s183_z 3 _ (by decide) rfl g3_z
      clear s183_z s184_z
      replace hc_z := rn_iload (am_cur_of (i := (27, 2, .iload 4, (0, 0, 0), 0)) (by decide +kernel)) g4_z hc_z
      replace hc_z := rn_if (am_cur_of (i := (29, 3, .ifCond .eq 9, (23, 0, 0), 0)) (by decide +kernel)) hc_z
      rcases hc_z with ⟨b185_z, hc_z⟩ | ⟨b185_z, hc_z⟩
      · replace b185_z : (O i.toNatClampNeg) = (0 : Int32) ∧ (O i.toNatClampNeg).toInt = (0 : Int32).toInt := b185_z
        replace hc_z := rn_iload_n (am_cur_of (i := (38, 1, .iload_n 2, (0, 0, 0), 0)) (by decide +kernel)) g2_z hc_z
        replace hc_z := rn_bipush (w := 64) (am_cur_of (i := (39, 2, .bipush 64, (0, 0, 0), 0)) (by decide +kernel)) (by decide) hc_z
        replace hc_z := rn_cmp (am_cur_of (i := (41, 3, .if_icmp .lt 7, (28, 0, 0), 0)) (by decide +kernel)) hc_z
        rcases hc_z with ⟨b186_z, hc_z⟩ | ⟨b186_z, hc_z⟩
        · replace b186_z : top.toInt < (64 : Int32).toInt := b186_z
          have t1_z := rt_c1 (x := top) (by omega) (by omega)
          replace hc_z := rn_aload_n (am_cur_of (i := (48, 1, .aload_n 0, (0, 0, 0), 0)) (by decide +kernel)) g0_z hc_z
          replace hc_z := rn_getR (x := 39) (am_cur_of (i := (49, 3, .getfield 32, (2, 8, 175), 0)) (by decide +kernel)) (by decide +kernel) hc_z
          replace hc_z := rn_iload_n (am_cur_of (i := (52, 1, .iload_n 2, (0, 0, 0), 0)) (by decide +kernel)) g2_z hc_z
          replace hc_z := rn_iload (am_cur_of (i := (53, 2, .iload 4, (0, 0, 0), 0)) (by decide +kernel)) g4_z hc_z
          replace hc_z := ((rn_if (am_cur_of (i := (55, 3, .ifCond .ne 13, (39, 0, 0), 0)) (by decide +kernel)) hc_z).resolve_left (fun q => absurd q.1 (fun z => z.1 b185_z.1))).2
          replace hc_z := rn_aload_n (am_cur_of (i := (58, 1, .aload_n 0, (0, 0, 0), 0)) (by decide +kernel)) g0_z hc_z
          replace hc_z := rn_getR (x := 34) (am_cur_of (i := (59, 3, .getfield 15, (2, 3, 168), 0)) (by decide +kernel)) (by decide +kernel) hc_z
          replace hc_z := rn_iload_n (am_cur_of (i := (62, 1, .iload_n 3, (0, 0, 0), 0)) (by decide +kernel)) g3_z hc_z
          replace hc_z := rn_iaload (N := 64) (q := i.toNatClampNeg) (v := V i.toNatClampNeg) (am_cur_of (i := (63, 1, .iaload, (0, 0, 0), 0)) (by decide +kernel)) (by decide +kernel) rfl (eV _) hc_z
          obtain ⟨p188_z, hc_z⟩ := hc_z
          replace hc_z := rn_i2l (w := (V i.toNatClampNeg).toInt64) (am_cur_of (i := (64, 1, .i2l, (0, 0, 0), 0)) (by decide +kernel)) rfl hc_z
          replace hc_z := rn_goto (am_cur_of (i := (65, 3, .goto 14, (46, 0, 0), 0)) (by decide +kernel)) hc_z
          replace hc_z := rn_lastore (N := 64) (q := top.toNatClampNeg) (am_cur_of (i := (79, 1, .lastore, (0, 0, 0), 0)) (by decide +kernel)) (by decide +kernel) rfl hc_z
          obtain ⟨p189_z, hc_z⟩ := hc_z
          replace hc_z := rn_iinc (w := top + 1) (am_cur_of (i := (80, 3, .iinc 2 1, (0, 0, 0), 0)) (by decide +kernel)) g2_z rfl hc_z
          obtain ⟨_, s190_z, s191_z, g2_z, hc_z⟩ := hc_z
          replace g0_z := s190_z 0 _ (by decide) rfl g0_z
          replace g1_z := s190_z 1 _ (by decide) rfl g1_z
          replace g3_z := s190_z 3 _ (by decide) rfl g3_z
          replace g4_z := s190_z 4 _ (by decide) rfl g4_z
          clear s190_z s191_z
          replace hc_z := rn_goto (am_cur_of (i := (83, 3, .goto 112, (112, 0, 0), 0)) (by decide +kernel)) hc_z
          replace hc_z := rn_iinc (w := i + 1) (am_cur_of (i := (195, 3, .iinc 3 1, (0, 0, 0), 0)) (by decide +kernel)) g3_z rfl hc_z
          obtain ⟨_, s192_z, s193_z, g3_z, hc_z⟩ := hc_z
          replace g0_z := s192_z 0 _ (by decide) rfl g0_z
          replace g1_z := s192_z 1 _ (by decide) rfl g1_z
          replace g2_z := s192_z 2 _ (by decide) rfl g2_z
          replace g4_z := s192_z 4 _ (by decide) rfl g4_z
          clear s192_z s193_z
          replace hc_z := rn_gotoL (am_cur_of (i := (198, 3, .goto (-189), (7, 0, 0), 0)) (by decide +kernel)) hc_z
          have ps : lvS (O i.toNatClampNeg) (V i.toNatClampNeg) N S = some ((V i.toNatClampNeg).toInt :: S) := by
            rw [b185_z.1]
            exact lvS_0 (by omega)
          have sq : sd (am_up h 39 top.toNatClampNeg (.long ((V i.toNatClampNeg).toInt64))) 39 ((V i.toNatClampNeg).toInt :: S) := by
            rw [← Int32.toInt_toInt64 (V i.toNatClampNeg)]
            exact sd_put (by omega) hs_z
          replace ps : lvS (O (f0_z + m)) (V (f0_z + m)) N S = some ((V i.toNatClampNeg).toInt :: S) := by
            rw [← ci_z]
            exact ps
          obtain ⟨w2_z, q1_z, q2_z, q3_z⟩ := ih_z (m + 1) (top + 1) (i + 1) ((V i.toNatClampNeg).toInt :: S) _ _ g0_z g1_z g2_z g3_z (by rw [List.length_cons]; omega) (by omega) (by omega) ((lvF_s hS).trans ps) (fun x hx_z => by
              rcases List.mem_cons.mp hx_z with e | e
              · rw [e]; exact lB_32 _
              · exact hB x e) sq (fun q => eO q) (fun q => eV q) (fun q => eN q) et hc_z
          exact ⟨w2_z, q1_z, q2_z, fun o k ho => (q3_z o k ho).trans (up_ne (fun z => ho z.1))⟩
        · replace b186_z : (64 : Int32).toInt ≤ top.toInt := b186_z
          replace hc_z := rn_ldc2 (w := (-9223372036854775808)) (am_cur_of (i := (44, 3, .ldc2_w 42, (0, 0, 929), (-9223372036854775808))) (by decide +kernel)) (by decide) hc_z
          replace hc_z := rn_lret (am_cur_of (i := (47, 1, .lreturn, (0, 0, 0), 0)) (by decide +kernel)) hc_z
          obtain ⟨e194_z, e195_z⟩ := hc_z
          refine ⟨_, e194_z, ?_, fun o k _ => by rw [e195_z]⟩
          have pn : lvS (O i.toNatClampNeg) (V i.toNatClampNeg) N (S) = none := lvS_9 (Or.inl b185_z.1) (by omega)
          rw [ci_z] at pn
          rw [lvF_e hS pn (by omega)]
          exact lw_E
      · replace b185_z : ¬ (O i.toNatClampNeg) = (0 : Int32) ∧ ¬ (O i.toNatClampNeg).toInt = (0 : Int32).toInt := b185_z
        replace hc_z := rn_iload (am_cur_of (i := (32, 2, .iload 4, (0, 0, 0), 0)) (by decide +kernel)) g4_z hc_z
        replace hc_z := rn_iconst (w := 1) (am_cur_of (i := (34, 1, .iconst 1, (0, 0, 0), 0)) (by decide +kernel)) (by decide) hc_z
        replace hc_z := rn_cmp (am_cur_of (i := (35, 3, .if_icmp .ne 51, (49, 0, 0), 0)) (by decide +kernel)) hc_z
        rcases hc_z with ⟨b196_z, hc_z⟩ | ⟨b196_z, hc_z⟩
        · replace b196_z : ¬ (O i.toNatClampNeg) = (1 : Int32) ∧ ¬ (O i.toNatClampNeg).toInt = (1 : Int32).toInt := b196_z
          replace hc_z := rn_iload (am_cur_of (i := (86, 2, .iload 4, (0, 0, 0), 0)) (by decide +kernel)) g4_z hc_z
          replace hc_z := rn_iconst (w := 5) (am_cur_of (i := (88, 1, .iconst 5, (0, 0, 0), 0)) (by decide +kernel)) (by decide) hc_z
          replace hc_z := rn_cmp (am_cur_of (i := (89, 3, .if_icmp .ne 41, (76, 0, 0), 0)) (by decide +kernel)) hc_z
          rcases hc_z with ⟨b197_z, hc_z⟩ | ⟨b197_z, hc_z⟩
          · replace b197_z : ¬ (O i.toNatClampNeg) = (5 : Int32) ∧ ¬ (O i.toNatClampNeg).toInt = (5 : Int32).toInt := b197_z
            replace hc_z := rn_iload_n (am_cur_of (i := (130, 1, .iload_n 2, (0, 0, 0), 0)) (by decide +kernel)) g2_z hc_z
            replace hc_z := rn_iconst (w := 2) (am_cur_of (i := (131, 1, .iconst 2, (0, 0, 0), 0)) (by decide +kernel)) (by decide) hc_z
            replace hc_z := rn_cmp (am_cur_of (i := (132, 3, .if_icmp .ge 7, (81, 0, 0), 0)) (by decide +kernel)) hc_z
            rcases hc_z with ⟨b198_z, hc_z⟩ | ⟨b198_z, hc_z⟩
            · replace b198_z : (2 : Int32).toInt ≤ top.toInt := b198_z
              obtain ⟨x0_z, y0_z, s0_z, eS⟩ : ∃ x y s, S = x :: y :: s := by
                match S, eT with
                | [], q => exact absurd q (by rw [List.length_nil]; omega)
                | [x], q => exact absurd q (by rw [List.length_cons, List.length_nil]; omega)
                | x :: y :: s, _ => exact ⟨x, y, s, rfl⟩
              subst eS
              rw [List.length_cons, List.length_cons] at eT
              obtain ⟨u, eu, ut⟩ := lw_tm (x := top) (by omega)
              have u1_z := ab_isub (x := u) (y := 1) (by omega) (by omega)
              have c0_z := rt_cl (x := u) (by omega)
              have c1_z := rt_cl (x := u - 1) (by omega)
              have ix : u.toNatClampNeg = s0_z.length + 1 := by omega
              have iy : (u - 1).toNatClampNeg = s0_z.length := by omega
              have ex : (rg_l h 39 u.toNatClampNeg).toInt = x0_z := by
                rw [ix]
                exact hs_z.1
              have ey : (rg_l h 39 (u - 1).toNatClampNeg).toInt = y0_z := by
                rw [iy]
                exact hs_z.2.1
              have bx : lB x0_z := hB x0_z (List.mem_cons_self ..)
              have by_ : lB y0_z := hB y0_z (List.mem_cons_of_mem _ (List.mem_cons_self ..))
              replace hc_z := rn_iinc (w := u) (am_cur_of (i := (139, 3, .iinc 2 (-1), (0, 0, 0), 0)) (by decide +kernel)) g2_z ((congrArg (fun z => top + z) (show Int32.ofInt (-1) = (-1) by decide)).trans eu) hc_z
              obtain ⟨_, s199_z, s200_z, g2_z, hc_z⟩ := hc_z
              replace g0_z := s199_z 0 _ (by decide) rfl g0_z
              replace g1_z := s199_z 1 _ (by decide) rfl g1_z
              replace g3_z := s199_z 3 _ (by decide) rfl g3_z
              replace g4_z := s199_z 4 _ (by decide) rfl g4_z
              clear s199_z s200_z
              replace hc_z := rn_iload (am_cur_of (i := (142, 2, .iload 4, (0, 0, 0), 0)) (by decide +kernel)) g4_z hc_z
              replace hc_z := rn_aload_n (am_cur_of (i := (144, 1, .aload_n 0, (0, 0, 0), 0)) (by decide +kernel)) g0_z hc_z
              replace hc_z := rn_getR (x := 39) (am_cur_of (i := (145, 3, .getfield 32, (2, 8, 175), 0)) (by decide +kernel)) (by decide +kernel) hc_z
              replace hc_z := rn_iload_n (am_cur_of (i := (148, 1, .iload_n 2, (0, 0, 0), 0)) (by decide +kernel)) g2_z hc_z
              replace hc_z := rn_iconst (w := 1) (am_cur_of (i := (149, 1, .iconst 1, (0, 0, 0), 0)) (by decide +kernel)) (by decide) hc_z
              replace hc_z := rn_isub (w := u - 1) (am_cur_of (i := (150, 1, .isub, (0, 0, 0), 0)) (by decide +kernel)) rfl hc_z
              replace hc_z := rn_laload (N := 64) (q := (u - 1).toNatClampNeg) (v := rg_l h 39 ((u - 1).toNatClampNeg)) (am_cur_of (i := (151, 1, .laload, (0, 0, 0), 0)) (by decide +kernel)) (by decide +kernel) rfl rfl hc_z
              obtain ⟨p201_z, hc_z⟩ := hc_z
              replace hc_z := rn_aload_n (am_cur_of (i := (152, 1, .aload_n 0, (0, 0, 0), 0)) (by decide +kernel)) g0_z hc_z
              replace hc_z := rn_getR (x := 39) (am_cur_of (i := (153, 3, .getfield 32, (2, 8, 175), 0)) (by decide +kernel)) (by decide +kernel) hc_z
              replace hc_z := rn_iload_n (am_cur_of (i := (156, 1, .iload_n 2, (0, 0, 0), 0)) (by decide +kernel)) g2_z hc_z
              replace hc_z := rn_laload (N := 64) (q := u.toNatClampNeg) (v := rg_l h 39 u.toNatClampNeg) (am_cur_of (i := (157, 1, .laload, (0, 0, 0), 0)) (by decide +kernel)) (by decide +kernel) rfl rfl hc_z
              obtain ⟨p202_z, hc_z⟩ := hc_z
              replace hc_z := rn_callS (M' := am_m67) (ar := [.long (rg_l h 39 u.toNatClampNeg), .long (rg_l h 39 ((u - 1).toNatClampNeg)), .int (O i.toNatClampNeg)]) (rest := []) (L := lv_args 0 [.int (O i.toNatClampNeg), .long (rg_l h 39 ((u - 1).toNatClampNeg)), .long (rg_l h 39 u.toNatClampNeg)]) (am_cur_of (i := (158, 3, .invokestatic 44, (67, 930, 3), 0)) (by decide +kernel)) rfl rfl rfl rfl hc_z
              obtain ⟨r203_z, h204_z, q205_z, hc_z⟩ := hc_z
              obtain ⟨wj, rr, hh, ok⟩ := jn_67 (by rw [ey]; exact by_) (by rw [ex]; exact bx) q205_z
              rw [ex, ey] at ok
              replace hh := hh.symm
              subst rr
              subst hh
              replace hc_z : rn _ _ _ _ [.long wj] _ _ _ := hc_z
              replace hc_z := rn_lstore (am_cur_of (i := (161, 2, .lstore 5, (0, 0, 0), 0)) (by decide +kernel)) hc_z
              obtain ⟨_, s206_z, s207_z, g5_z, hc_z⟩ := hc_z
              replace g0_z := s206_z 0 _ (by decide) (by decide) rfl g0_z
              replace g1_z := s206_z 1 _ (by decide) (by decide) rfl g1_z
              replace g2_z := s206_z 2 _ (by decide) (by decide) rfl g2_z
              replace g3_z := s206_z 3 _ (by decide) (by decide) rfl g3_z
              replace g4_z := s206_z 4 _ (by decide) (by decide) rfl g4_z
              clear s206_z s207_z
              replace hc_z := rn_lload (am_cur_of (i := (163, 2, .lload 5, (0, 0, 0), 0)) (by decide +kernel)) g5_z hc_z
              replace hc_z := rn_ldc2 (w := 1000000000000) (am_cur_of (i := (165, 3, .ldc2_w 48, (0, 0, 933), 1000000000000)) (by decide +kernel)) (by decide) hc_z
              replace hc_z := rn_lcmp (w := lg_cmp wj 1000000000000) (am_cur_of (i := (168, 1, .lcmp, (0, 0, 0), 0)) (by decide +kernel)) rfl hc_z
              replace hc_z := rn_if (am_cur_of (i := (169, 3, .ifCond .gt 12, (103, 0, 0), 0)) (by decide +kernel)) hc_z
              rcases hc_z with ⟨b208_z, hc_z⟩ | ⟨b208_z, hc_z⟩
              · replace b208_z : (0 : Int32).toInt < (lg_cmp wj 1000000000000).toInt := b208_z
                replace b208_z := lgc_gt b208_z
                replace hc_z := rn_ldc2 (w := (-9223372036854775808)) (am_cur_of (i := (181, 3, .ldc2_w 42, (0, 0, 929), (-9223372036854775808))) (by decide +kernel)) (by decide) hc_z
                replace hc_z := rn_lret (am_cur_of (i := (184, 1, .lreturn, (0, 0, 0), 0)) (by decide +kernel)) hc_z
                obtain ⟨e209_z, e210_z⟩ := hc_z
                refine ⟨_, e209_z, ?_, fun o k _ => by rw [e210_z]⟩
                have pn : lvS (O i.toNatClampNeg) (V i.toNatClampNeg) N (x0_z :: y0_z :: s0_z) = none := lvS_jn b185_z.1 b196_z.1 b197_z.1 (okW_out by_ ok (by omega))
                rw [ci_z] at pn
                rw [lvF_e hS pn (by omega)]
                exact lw_E
              · replace b208_z : (lg_cmp wj 1000000000000).toInt ≤ (0 : Int32).toInt := b208_z
                replace b208_z := lgc_le b208_z
                replace hc_z := rn_lload (am_cur_of (i := (172, 2, .lload 5, (0, 0, 0), 0)) (by decide +kernel)) g5_z hc_z
                replace hc_z := rn_ldc2 (w := (-1000000000000)) (am_cur_of (i := (174, 3, .ldc2_w 50, (0, 0, 934), (-1000000000000))) (by decide +kernel)) (by decide) hc_z
                replace hc_z := rn_lcmp (w := lg_cmp wj (-1000000000000)) (am_cur_of (i := (177, 1, .lcmp, (0, 0, 0), 0)) (by decide +kernel)) rfl hc_z
                replace hc_z := rn_if (am_cur_of (i := (178, 3, .ifCond .ge 7, (105, 0, 0), 0)) (by decide +kernel)) hc_z
                rcases hc_z with ⟨b211_z, hc_z⟩ | ⟨b211_z, hc_z⟩
                · replace b211_z : (0 : Int32).toInt ≤ (lg_cmp wj (-1000000000000)).toInt := b211_z
                  replace b211_z := lgc_ge b211_z
                  replace hc_z := rn_aload_n (am_cur_of (i := (185, 1, .aload_n 0, (0, 0, 0), 0)) (by decide +kernel)) g0_z hc_z
                  replace hc_z := rn_getR (x := 39) (am_cur_of (i := (186, 3, .getfield 32, (2, 8, 175), 0)) (by decide +kernel)) (by decide +kernel) hc_z
                  replace hc_z := rn_iload_n (am_cur_of (i := (189, 1, .iload_n 2, (0, 0, 0), 0)) (by decide +kernel)) g2_z hc_z
                  replace hc_z := rn_iconst (w := 1) (am_cur_of (i := (190, 1, .iconst 1, (0, 0, 0), 0)) (by decide +kernel)) (by decide) hc_z
                  replace hc_z := rn_isub (w := u - 1) (am_cur_of (i := (191, 1, .isub, (0, 0, 0), 0)) (by decide +kernel)) rfl hc_z
                  replace hc_z := rn_lload (am_cur_of (i := (192, 2, .lload 5, (0, 0, 0), 0)) (by decide +kernel)) g5_z hc_z
                  replace hc_z := rn_lastore (N := 64) (q := (u - 1).toNatClampNeg) (am_cur_of (i := (194, 1, .lastore, (0, 0, 0), 0)) (by decide +kernel)) (by decide +kernel) rfl hc_z
                  obtain ⟨p212_z, hc_z⟩ := hc_z
                  replace hc_z := rn_iinc (w := i + 1) (am_cur_of (i := (195, 3, .iinc 3 1, (0, 0, 0), 0)) (by decide +kernel)) g3_z rfl hc_z
                  obtain ⟨_, s213_z, s214_z, g3_z, hc_z⟩ := hc_z
                  replace g0_z := s213_z 0 _ (by decide) rfl g0_z
                  replace g1_z := s213_z 1 _ (by decide) rfl g1_z
                  replace g2_z := s213_z 2 _ (by decide) rfl g2_z
                  replace g4_z := s213_z 4 _ (by decide) rfl g4_z
                  replace g5_z := s214_z 5 _ (by decide) (by decide) g5_z
                  clear s213_z s214_z
                  replace hc_z := rn_gotoL (am_cur_of (i := (198, 3, .goto (-189), (7, 0, 0), 0)) (by decide +kernel)) hc_z
                  have pj := okW_in ok ⟨by omega, by omega⟩
                  have ps : lvS (O i.toNatClampNeg) (V i.toNatClampNeg) N (x0_z :: y0_z :: s0_z) = some (wj.toInt :: s0_z) := lvS_j b185_z.1 b196_z.1 b197_z.1 pj
                  have sq : sd (am_up h 39 ((u - 1).toNatClampNeg) (.long wj)) 39 (wj.toInt :: s0_z) := sd_put (v := wj) iy hs_z.2.2
                  replace ps : lvS (O (f0_z + m)) (V (f0_z + m)) N (x0_z :: y0_z :: s0_z) = some (wj.toInt :: s0_z) := by
                    rw [← ci_z]
                    exact ps
                  obtain ⟨w2_z, q1_z, q2_z, q3_z⟩ := ih_z (m + 1) u (i + 1) (wj.toInt :: s0_z) _ _ g0_z g1_z g2_z g3_z (by rw [List.length_cons]; omega) (by omega) (by omega) ((lvF_s hS).trans ps) (fun x hx_z => by
                      rcases List.mem_cons.mp hx_z with e | e
                      · rw [e]; exact jZ_b by_ pj
                      · exact hB x (List.mem_cons_of_mem _ (List.mem_cons_of_mem _ e))) sq (fun q => eO q) (fun q => eV q) (fun q => eN q) et hc_z
                  exact ⟨w2_z, q1_z, q2_z, fun o k ho => (q3_z o k ho).trans (up_ne (fun z => ho z.1))⟩
                · replace b211_z : (lg_cmp wj (-1000000000000)).toInt < (0 : Int32).toInt := b211_z
                  replace b211_z := lgc_lt b211_z
                  replace hc_z := rn_ldc2 (w := (-9223372036854775808)) (am_cur_of (i := (181, 3, .ldc2_w 42, (0, 0, 929), (-9223372036854775808))) (by decide +kernel)) (by decide) hc_z
                  replace hc_z := rn_lret (am_cur_of (i := (184, 1, .lreturn, (0, 0, 0), 0)) (by decide +kernel)) hc_z
                  obtain ⟨e215_z, e216_z⟩ := hc_z
                  refine ⟨_, e215_z, ?_, fun o k _ => by rw [e216_z]⟩
                  have pn : lvS (O i.toNatClampNeg) (V i.toNatClampNeg) N (x0_z :: y0_z :: s0_z) = none := lvS_jn b185_z.1 b196_z.1 b197_z.1 (okW_out by_ ok (by omega))
                  rw [ci_z] at pn
                  rw [lvF_e hS pn (by omega)]
                  exact lw_E
            · replace b198_z : top.toInt < (2 : Int32).toInt := b198_z
              replace hc_z := rn_ldc2 (w := (-9223372036854775808)) (am_cur_of (i := (135, 3, .ldc2_w 42, (0, 0, 929), (-9223372036854775808))) (by decide +kernel)) (by decide) hc_z
              replace hc_z := rn_lret (am_cur_of (i := (138, 1, .lreturn, (0, 0, 0), 0)) (by decide +kernel)) hc_z
              obtain ⟨e217_z, e218_z⟩ := hc_z
              refine ⟨_, e217_z, ?_, fun o k _ => by rw [e218_z]⟩
              have pn : lvS (O i.toNatClampNeg) (V i.toNatClampNeg) N (S) = none := lvS_j2 b185_z.1 b196_z.1 b197_z.1 (by omega)
              rw [ci_z] at pn
              rw [lvF_e hS pn (by omega)]
              exact lw_E
          · replace b197_z : (O i.toNatClampNeg) = (5 : Int32) ∧ (O i.toNatClampNeg).toInt = (5 : Int32).toInt := b197_z
            replace hc_z := rn_iload_n (am_cur_of (i := (92, 1, .iload_n 2, (0, 0, 0), 0)) (by decide +kernel)) g2_z hc_z
            replace hc_z := rn_iconst (w := 1) (am_cur_of (i := (93, 1, .iconst 1, (0, 0, 0), 0)) (by decide +kernel)) (by decide) hc_z
            replace hc_z := rn_cmp (am_cur_of (i := (94, 3, .if_icmp .ge 7, (57, 0, 0), 0)) (by decide +kernel)) hc_z
            rcases hc_z with ⟨b219_z, hc_z⟩ | ⟨b219_z, hc_z⟩
            · replace b219_z : (1 : Int32).toInt ≤ top.toInt := b219_z
              obtain ⟨x0_z, s0_z, eS⟩ : ∃ x s, S = x :: s := by
                match S, eT with
                | [], q => exact absurd q (by rw [List.length_nil]; omega)
                | x :: s, _ => exact ⟨x, s, rfl⟩
              subst eS
              rw [List.length_cons] at eT
              have u1_z := ab_isub (x := top) (y := 1) (by omega) (by omega)
              have c1_z := rt_cl (x := top - 1) (by omega)
              have ix : (top - 1).toNatClampNeg = s0_z.length := by omega
              have ex : (rg_l h 39 (top - 1).toNatClampNeg).toInt = x0_z := by
                rw [ix]
                exact hs_z.1
              replace hc_z := rn_aload_n (am_cur_of (i := (101, 1, .aload_n 0, (0, 0, 0), 0)) (by decide +kernel)) g0_z hc_z
              replace hc_z := rn_getR (x := 39) (am_cur_of (i := (102, 3, .getfield 32, (2, 8, 175), 0)) (by decide +kernel)) (by decide +kernel) hc_z
              replace hc_z := rn_iload_n (am_cur_of (i := (105, 1, .iload_n 2, (0, 0, 0), 0)) (by decide +kernel)) g2_z hc_z
              replace hc_z := rn_iconst (w := 1) (am_cur_of (i := (106, 1, .iconst 1, (0, 0, 0), 0)) (by decide +kernel)) (by decide) hc_z
              replace hc_z := rn_isub (w := top - 1) (am_cur_of (i := (107, 1, .isub, (0, 0, 0), 0)) (by decide +kernel)) rfl hc_z
              replace hc_z := rn_aload_n (am_cur_of (i := (108, 1, .aload_n 0, (0, 0, 0), 0)) (by decide +kernel)) g0_z hc_z
              replace hc_z := rn_getR (x := 39) (am_cur_of (i := (109, 3, .getfield 32, (2, 8, 175), 0)) (by decide +kernel)) (by decide +kernel) hc_z
              replace hc_z := rn_iload_n (am_cur_of (i := (112, 1, .iload_n 2, (0, 0, 0), 0)) (by decide +kernel)) g2_z hc_z
              replace hc_z := rn_iconst (w := 1) (am_cur_of (i := (113, 1, .iconst 1, (0, 0, 0), 0)) (by decide +kernel)) (by decide) hc_z
              replace hc_z := rn_isub (w := top - 1) (am_cur_of (i := (114, 1, .isub, (0, 0, 0), 0)) (by decide +kernel)) rfl hc_z
              replace hc_z := rn_laload (N := 64) (q := (top - 1).toNatClampNeg) (v := rg_l h 39 ((top - 1).toNatClampNeg)) (am_cur_of (i := (115, 1, .laload, (0, 0, 0), 0)) (by decide +kernel)) (by decide +kernel) rfl rfl hc_z
              obtain ⟨p220_z, hc_z⟩ := hc_z
              replace hc_z := rn_lconst (w := 0) (am_cur_of (i := (116, 1, .lconst 0, (0, 0, 0), 0)) (by decide +kernel)) rfl hc_z
              replace hc_z := rn_lcmp (w := lg_cmp (rg_l h 39 ((top - 1).toNatClampNeg)) 0) (am_cur_of (i := (117, 1, .lcmp, (0, 0, 0), 0)) (by decide +kernel)) rfl hc_z
              replace hc_z := rn_if (am_cur_of (i := (118, 3, .ifCond .ne 7, (73, 0, 0), 0)) (by decide +kernel)) hc_z
              rcases hc_z with ⟨b221_z, hc_z⟩ | ⟨b221_z, hc_z⟩
              · replace b221_z : ¬ (lg_cmp (rg_l h 39 ((top - 1).toNatClampNeg)) 0) = (0 : Int32) ∧ ¬ (lg_cmp (rg_l h 39 ((top - 1).toNatClampNeg)) 0).toInt = (0 : Int32).toInt := b221_z
                replace b221_z := lgc_ne b221_z
                replace hc_z := rn_lconst (w := 0) (am_cur_of (i := (125, 1, .lconst 0, (0, 0, 0), 0)) (by decide +kernel)) rfl hc_z
                replace hc_z := rn_lastore (N := 64) (q := (top - 1).toNatClampNeg) (am_cur_of (i := (126, 1, .lastore, (0, 0, 0), 0)) (by decide +kernel)) (by decide +kernel) rfl hc_z
                obtain ⟨p222_z, hc_z⟩ := hc_z
                replace hc_z := rn_goto (am_cur_of (i := (127, 3, .goto 68, (112, 0, 0), 0)) (by decide +kernel)) hc_z
                replace hc_z := rn_iinc (w := i + 1) (am_cur_of (i := (195, 3, .iinc 3 1, (0, 0, 0), 0)) (by decide +kernel)) g3_z rfl hc_z
                obtain ⟨_, s223_z, s224_z, g3_z, hc_z⟩ := hc_z
                replace g0_z := s223_z 0 _ (by decide) rfl g0_z
                replace g1_z := s223_z 1 _ (by decide) rfl g1_z
                replace g2_z := s223_z 2 _ (by decide) rfl g2_z
                replace g4_z := s223_z 4 _ (by decide) rfl g4_z
                clear s223_z s224_z
                replace hc_z := rn_gotoL (am_cur_of (i := (198, 3, .goto (-189), (7, 0, 0), 0)) (by decide +kernel)) hc_z
                have ps : lvS (O i.toNatClampNeg) (V i.toNatClampNeg) N (x0_z :: s0_z) = some (0 :: s0_z) := by
                  rw [b197_z.1, lvS_5, if_neg (by omega)]
                have sq : sd (am_up h 39 ((top - 1).toNatClampNeg) (.long 0)) 39 (0 :: s0_z) := by
                  have e := sd_put (c := 39) (v := 0) ix hs_z.2
                  rw [show (0 : Int64).toInt = 0 by decide] at e
                  exact e
                replace ps : lvS (O (f0_z + m)) (V (f0_z + m)) N (x0_z :: s0_z) = some (0 :: s0_z) := by
                  rw [← ci_z]
                  exact ps
                obtain ⟨w2_z, q1_z, q2_z, q3_z⟩ := ih_z (m + 1) top (i + 1) (0 :: s0_z) _ _ g0_z g1_z g2_z g3_z (by rw [List.length_cons]; omega) (by omega) (by omega) ((lvF_s hS).trans ps) (fun x hx_z => by
                    rcases List.mem_cons.mp hx_z with e | e
                    · rw [e]; exact ⟨by decide, by decide⟩
                    · exact hB x (List.mem_cons_of_mem _ e)) sq (fun q => eO q) (fun q => eV q) (fun q => eN q) et hc_z
                exact ⟨w2_z, q1_z, q2_z, fun o k ho => (q3_z o k ho).trans (up_ne (fun z => ho z.1))⟩
              · replace b221_z : (lg_cmp (rg_l h 39 ((top - 1).toNatClampNeg)) 0) = (0 : Int32) ∧ (lg_cmp (rg_l h 39 ((top - 1).toNatClampNeg)) 0).toInt = (0 : Int32).toInt := b221_z
                replace b221_z := lgc_eq b221_z
                replace hc_z := rn_lconst (w := 1) (am_cur_of (i := (121, 1, .lconst 1, (0, 0, 0), 0)) (by decide +kernel)) rfl hc_z
                replace hc_z := rn_goto (am_cur_of (i := (122, 3, .goto 4, (74, 0, 0), 0)) (by decide +kernel)) hc_z
                replace hc_z := rn_lastore (N := 64) (q := (top - 1).toNatClampNeg) (am_cur_of (i := (126, 1, .lastore, (0, 0, 0), 0)) (by decide +kernel)) (by decide +kernel) rfl hc_z
                obtain ⟨p225_z, hc_z⟩ := hc_z
                replace hc_z := rn_goto (am_cur_of (i := (127, 3, .goto 68, (112, 0, 0), 0)) (by decide +kernel)) hc_z
                replace hc_z := rn_iinc (w := i + 1) (am_cur_of (i := (195, 3, .iinc 3 1, (0, 0, 0), 0)) (by decide +kernel)) g3_z rfl hc_z
                obtain ⟨_, s226_z, s227_z, g3_z, hc_z⟩ := hc_z
                replace g0_z := s226_z 0 _ (by decide) rfl g0_z
                replace g1_z := s226_z 1 _ (by decide) rfl g1_z
                replace g2_z := s226_z 2 _ (by decide) rfl g2_z
                replace g4_z := s226_z 4 _ (by decide) rfl g4_z
                clear s226_z s227_z
                replace hc_z := rn_gotoL (am_cur_of (i := (198, 3, .goto (-189), (7, 0, 0), 0)) (by decide +kernel)) hc_z
                have ps : lvS (O i.toNatClampNeg) (V i.toNatClampNeg) N (x0_z :: s0_z) = some (1 :: s0_z) := by
                  rw [b197_z.1, lvS_5, if_pos (by omega)]
                have sq : sd (am_up h 39 ((top - 1).toNatClampNeg) (.long 1)) 39 (1 :: s0_z) := by
                  have e := sd_put (c := 39) (v := 1) ix hs_z.2
                  rw [show (1 : Int64).toInt = 1 by decide] at e
                  exact e
                replace ps : lvS (O (f0_z + m)) (V (f0_z + m)) N (x0_z :: s0_z) = some (1 :: s0_z) := by
                  rw [← ci_z]
                  exact ps
                obtain ⟨w2_z, q1_z, q2_z, q3_z⟩ := ih_z (m + 1) top (i + 1) (1 :: s0_z) _ _ g0_z g1_z g2_z g3_z (by rw [List.length_cons]; omega) (by omega) (by omega) ((lvF_s hS).trans ps) (fun x hx_z => by
                    rcases List.mem_cons.mp hx_z with e | e
                    · rw [e]; exact ⟨by decide, by decide⟩
                    · exact hB x (List.mem_cons_of_mem _ e)) sq (fun q => eO q) (fun q => eV q) (fun q => eN q) et hc_z
                exact ⟨w2_z, q1_z, q2_z, fun o k ho => (q3_z o k ho).trans (up_ne (fun z => ho z.1))⟩
            · replace b219_z : top.toInt < (1 : Int32).toInt := b219_z
              replace hc_z := rn_ldc2 (w := (-9223372036854775808)) (am_cur_of (i := (97, 3, .ldc2_w 42, (0, 0, 929), (-9223372036854775808))) (by decide +kernel)) (by decide) hc_z
              replace hc_z := rn_lret (am_cur_of (i := (100, 1, .lreturn, (0, 0, 0), 0)) (by decide +kernel)) hc_z
              obtain ⟨e228_z, e229_z⟩ := hc_z
              refine ⟨_, e228_z, ?_, fun o k _ => by rw [e229_z]⟩
              have eS : S = [] := by
                match S, eT with
                | [], _ => rfl
                | x :: s, q => exact absurd q (by rw [List.length_cons]; omega)
              have pn : lvS (O i.toNatClampNeg) (V i.toNatClampNeg) N (S) = none := by rw [b197_z.1, eS]; exact lvS_50
              rw [ci_z] at pn
              rw [lvF_e hS pn (by omega)]
              exact lw_E
        · replace b196_z : (O i.toNatClampNeg) = (1 : Int32) ∧ (O i.toNatClampNeg).toInt = (1 : Int32).toInt := b196_z
          replace hc_z := rn_iload_n (am_cur_of (i := (38, 1, .iload_n 2, (0, 0, 0), 0)) (by decide +kernel)) g2_z hc_z
          replace hc_z := rn_bipush (w := 64) (am_cur_of (i := (39, 2, .bipush 64, (0, 0, 0), 0)) (by decide +kernel)) (by decide) hc_z
          replace hc_z := rn_cmp (am_cur_of (i := (41, 3, .if_icmp .lt 7, (28, 0, 0), 0)) (by decide +kernel)) hc_z
          rcases hc_z with ⟨b230_z, hc_z⟩ | ⟨b230_z, hc_z⟩
          · replace b230_z : top.toInt < (64 : Int32).toInt := b230_z
            have t1_z := rt_c1 (x := top) (by omega) (by omega)
            replace hc_z := rn_aload_n (am_cur_of (i := (48, 1, .aload_n 0, (0, 0, 0), 0)) (by decide +kernel)) g0_z hc_z
            replace hc_z := rn_getR (x := 39) (am_cur_of (i := (49, 3, .getfield 32, (2, 8, 175), 0)) (by decide +kernel)) (by decide +kernel) hc_z
            replace hc_z := rn_iload_n (am_cur_of (i := (52, 1, .iload_n 2, (0, 0, 0), 0)) (by decide +kernel)) g2_z hc_z
            replace hc_z := rn_iload (am_cur_of (i := (53, 2, .iload 4, (0, 0, 0), 0)) (by decide +kernel)) g4_z hc_z
            replace hc_z := ((rn_if (am_cur_of (i := (55, 3, .ifCond .ne 13, (39, 0, 0), 0)) (by decide +kernel)) hc_z).resolve_right (fun q => absurd q.1 (fun z => b185_z.1 z.1))).2
            replace hc_z := rn_aload_n (am_cur_of (i := (68, 1, .aload_n 0, (0, 0, 0), 0)) (by decide +kernel)) g0_z hc_z
            replace hc_z := rn_getR (x := 38) (am_cur_of (i := (69, 3, .getfield 28, (2, 7, 173), 0)) (by decide +kernel)) (by decide +kernel) hc_z
            replace hc_z := rn_aload_n (am_cur_of (i := (72, 1, .aload_n 0, (0, 0, 0), 0)) (by decide +kernel)) g0_z hc_z
            replace hc_z := rn_getR (x := 34) (am_cur_of (i := (73, 3, .getfield 15, (2, 3, 168), 0)) (by decide +kernel)) (by decide +kernel) hc_z
            replace hc_z := rn_iload_n (am_cur_of (i := (76, 1, .iload_n 3, (0, 0, 0), 0)) (by decide +kernel)) g3_z hc_z
            replace hc_z := rn_iaload (N := 64) (q := i.toNatClampNeg) (v := V i.toNatClampNeg) (am_cur_of (i := (77, 1, .iaload, (0, 0, 0), 0)) (by decide +kernel)) (by decide +kernel) rfl (eV _) hc_z
            obtain ⟨p232_z, hc_z⟩ := hc_z
            replace hc_z := rn_laload (N := 6) (q := (V i.toNatClampNeg).toNatClampNeg) (v := N ((V i.toNatClampNeg).toNatClampNeg)) (am_cur_of (i := (78, 1, .laload, (0, 0, 0), 0)) (by decide +kernel)) (by decide +kernel) rfl (eN _) hc_z
            obtain ⟨p233_z, hc_z⟩ := hc_z
            replace hc_z := rn_lastore (N := 64) (q := top.toNatClampNeg) (am_cur_of (i := (79, 1, .lastore, (0, 0, 0), 0)) (by decide +kernel)) (by decide +kernel) rfl hc_z
            obtain ⟨p234_z, hc_z⟩ := hc_z
            replace hc_z := rn_iinc (w := top + 1) (am_cur_of (i := (80, 3, .iinc 2 1, (0, 0, 0), 0)) (by decide +kernel)) g2_z rfl hc_z
            obtain ⟨_, s235_z, s236_z, g2_z, hc_z⟩ := hc_z
            replace g0_z := s235_z 0 _ (by decide) rfl g0_z
            replace g1_z := s235_z 1 _ (by decide) rfl g1_z
            replace g3_z := s235_z 3 _ (by decide) rfl g3_z
            replace g4_z := s235_z 4 _ (by decide) rfl g4_z
            clear s235_z s236_z
            replace hc_z := rn_goto (am_cur_of (i := (83, 3, .goto 112, (112, 0, 0), 0)) (by decide +kernel)) hc_z
            replace hc_z := rn_iinc (w := i + 1) (am_cur_of (i := (195, 3, .iinc 3 1, (0, 0, 0), 0)) (by decide +kernel)) g3_z rfl hc_z
            obtain ⟨_, s237_z, s238_z, g3_z, hc_z⟩ := hc_z
            replace g0_z := s237_z 0 _ (by decide) rfl g0_z
            replace g1_z := s237_z 1 _ (by decide) rfl g1_z
            replace g2_z := s237_z 2 _ (by decide) rfl g2_z
            replace g4_z := s237_z 4 _ (by decide) rfl g4_z
            clear s237_z s238_z
            replace hc_z := rn_gotoL (am_cur_of (i := (198, 3, .goto (-189), (7, 0, 0), 0)) (by decide +kernel)) hc_z
            have ps : lvS (O i.toNatClampNeg) (V i.toNatClampNeg) N S = some ((N (V i.toNatClampNeg).toNatClampNeg).toInt :: S) := by
              rw [b196_z.1]
              exact lvS_1 (by omega)
            have sq : sd (am_up h 39 top.toNatClampNeg (.long (N ((V i.toNatClampNeg).toNatClampNeg)))) 39 ((N (V i.toNatClampNeg).toNatClampNeg).toInt :: S) := sd_put (by omega) hs_z
            replace ps : lvS (O (f0_z + m)) (V (f0_z + m)) N S = some ((N (V i.toNatClampNeg).toNatClampNeg).toInt :: S) := by
              rw [← ci_z]
              exact ps
            obtain ⟨w2_z, q1_z, q2_z, q3_z⟩ := ih_z (m + 1) (top + 1) (i + 1) ((N (V i.toNatClampNeg).toNatClampNeg).toInt :: S) _ _ g0_z g1_z g2_z g3_z (by rw [List.length_cons]; omega) (by omega) (by omega) ((lvF_s hS).trans ps) (fun x hx_z => by
                rcases List.mem_cons.mp hx_z with e | e
                · rw [e]; exact hN i.toNatClampNeg (by omega) (by omega) b196_z.1
                · exact hB x e) sq (fun q => eO q) (fun q => eV q) (fun q => eN q) et hc_z
            exact ⟨w2_z, q1_z, q2_z, fun o k ho => (q3_z o k ho).trans (up_ne (fun z => ho z.1))⟩
          · replace b230_z : (64 : Int32).toInt ≤ top.toInt := b230_z
            replace hc_z := rn_ldc2 (w := (-9223372036854775808)) (am_cur_of (i := (44, 3, .ldc2_w 42, (0, 0, 929), (-9223372036854775808))) (by decide +kernel)) (by decide) hc_z
            replace hc_z := rn_lret (am_cur_of (i := (47, 1, .lreturn, (0, 0, 0), 0)) (by decide +kernel)) hc_z
            obtain ⟨e239_z, e240_z⟩ := hc_z
            refine ⟨_, e239_z, ?_, fun o k _ => by rw [e240_z]⟩
            have pn : lvS (O i.toNatClampNeg) (V i.toNatClampNeg) N (S) = none := lvS_9 (Or.inr b196_z.1) (by omega)
            rw [ci_z] at pn
            rw [lvF_e hS pn (by omega)]
            exact lw_E
theorem vo_66_23 {n : Nat} {r : Option Value} {h h' : am_H} {kd t : Int32} {O V : Nat → Int32} {N : Nat → Int64} {f0_z T : Nat} (eTT : t.toInt = (T : Int)) (hN : ∀ i, f0_z ≤ i → i < T → O i = 1 → lB (N (V i).toNatClampNeg).toInt) (hT : f0_z + 0 ≤ T) (ef : (rg_v h 35 kd.toNatClampNeg).toInt = (f0_z : Int)) (eO : ∀ q, rg_v h 33 q = O q) (eV : ∀ q, rg_v h 34 q = V q) (eN : ∀ q, rg_l h 38 q = N q) (et : rg_v h 36 kd.toNatClampNeg = t) (hc_z : rn n am_m66 0 (lv_args 0 [.ref 32, .int kd]) [] h r h') : ∃ w : Int64, r = some (.long w) ∧ lR (lvR (lvF O V N f0_z (T - f0_z))) w.toInt ∧ ∀ o k, ¬ o = 39 → h' o k = h o k := by
  have g0_z : am_get (lv_args 0 [.ref 32, .int kd]) 0 = some (.ref 32) := rfl
  have g1_z : am_get (lv_args 0 [.ref 32, .int kd]) 1 = some (.int kd) := rfl
  replace hc_z := rn_iconst (w := 0) (am_cur_of (i := (0, 1, .iconst 0, (0, 0, 0), 0)) (by decide +kernel)) (by decide) hc_z
  replace hc_z := rn_istore_n (am_cur_of (i := (1, 1, .istore_n 2, (0, 0, 0), 0)) (by decide +kernel)) hc_z
  obtain ⟨_, s241_z, s242_z, g2_z, hc_z⟩ := hc_z
  replace g0_z := s241_z 0 _ (by decide) rfl g0_z
  replace g1_z := s241_z 1 _ (by decide) rfl g1_z
  clear s241_z s242_z
  replace hc_z := rn_aload_n (am_cur_of (i := (2, 1, .aload_n 0, (0, 0, 0), 0)) (by decide +kernel)) g0_z hc_z
  replace hc_z := rn_getR (x := 35) (am_cur_of (i := (3, 3, .getfield 18, (2, 4, 169), 0)) (by decide +kernel)) (by decide +kernel) hc_z
  replace hc_z := rn_iload_n (am_cur_of (i := (6, 1, .iload_n 1, (0, 0, 0), 0)) (by decide +kernel)) g1_z hc_z
  replace hc_z := rn_iaload (N := 3) (q := kd.toNatClampNeg) (v := rg_v h 35 kd.toNatClampNeg) (am_cur_of (i := (7, 1, .iaload, (0, 0, 0), 0)) (by decide +kernel)) (by decide +kernel) rfl rfl hc_z
  obtain ⟨p243_z, hc_z⟩ := hc_z
  replace hc_z := rn_istore_n (am_cur_of (i := (8, 1, .istore_n 3, (0, 0, 0), 0)) (by decide +kernel)) hc_z
  obtain ⟨_, s244_z, s245_z, g3_z, hc_z⟩ := hc_z
  replace g0_z := s244_z 0 _ (by decide) rfl g0_z
  replace g1_z := s244_z 1 _ (by decide) rfl g1_z
  replace g2_z := s244_z 2 _ (by decide) rfl g2_z
  clear s244_z s245_z
  exact vl_66_23 eTT hN _ 0 0 _ [] _ _ g0_z g1_z g2_z g3_z (by decide) (by rw [ef]; omega) hT rfl (fun x hx_z => by cases hx_z) trivial eO eV eN et hc_z
