/-! ===== A PLAN THAT IS READ LIES IN ITS BOUNDS (wip/r/gen99sd.py) ===== -/
/-- reading a token, a number: only the reader itself is written, its plan isn't -/
def rd_ok (a : Nat) : Bool := (Nat.ble 19 a && Nat.ble a 25) || (Nat.ble 28 a && Nat.ble a 30) || (Nat.ble 32 a && Nat.ble a 34) || Nat.beq a 39 || Nat.beq a 45 || Nat.beq a 53
def rd_w : rw_W := (fun ci_z f => !(Nat.beq (rg_cl ci_z f) 9) && Nat.beq ci_z 4 && !(Nat.beq f 6), false, rd_ok)
def rd_P (v : Nat → Nat → Value) (h : am_H) : Prop := rg_Gd h ∧ (∀ o k, ¬ o = 44 → h o k = v o k) ∧ h 44 6 = v 44 6
theorem rd_wP (v : Nat → Nat → Value) : rw_P rd_w (rd_P v) := by
  refine ⟨fun h o ci_z f u hP hk_z hc_z hf_z => ?_, fun hb_z => absurd hb_z (by decide)⟩
  have hc_z' : (!(Nat.beq (rg_cl ci_z f) 9) && Nat.beq ci_z 4 && !(Nat.beq f 6)) = true := hc_z
  simp only [Bool.and_eq_true, Bool.not_eq_true'] at hc_z'
  obtain ⟨⟨c1_z, c2_z⟩, c3_z⟩ := hc_z'
  have e4_z := Nat.eq_of_beq_eq_true c2_z
  subst e4_z
  have e44_z := rs_c4 o hk_z
  subst e44_z
  refine ⟨rn_wP.1 h 44 4 f u hP.1 hk_z (show (!(Nat.beq (rg_cl 4 f) 9)) = true by rw [c1_z]; rfl) hf_z, fun o k ho => ?_, ?_⟩
  · rw [up_ne (by omega)]
    exact hP.2.1 o k ho
  · rw [up_ne]
    · exact hP.2.2
    · rintro ⟨-, e⟩
      rw [← e] at c3_z
      exact absurd c3_z (by decide)
def rd_M (a : Nat) : Bool := !(rd_ok a) || (match am_prog[a]? with
  | some M => M.2.2.2.all (rw_I rd_w)
  | none => true)
set_option maxRecDepth 1000000 in
theorem rd_M_all : (List.range 256).all rd_M = true := by decide +kernel
theorem rd_K {a : Nat} {M : am_M} (ha_z : rd_ok a = true) (hM : am_prog[a]? = some M) : rw_K rd_w M.2.2.2 := by
  have hl_z : a < am_prog.length := (List.getElem?_eq_some_iff.mp hM).1
  rw [am_prog_len] at hl_z
  have hb_z := List.all_eq_true.mp rd_M_all a (List.mem_range.mpr (by omega))
  unfold rd_M at hb_z
  rw [ha_z, hM] at hb_z
  exact List.all_eq_true.mp hb_z
def rdk (h h' : am_H) : Prop := (∀ o k, ¬ o = 44 → h' o k = h o k) ∧ h' 44 6 = h 44 6
theorem rd_of {a n : Nat} {M : am_M} {as : List Value} {h h' : am_H} {r : Option Value} (ha_z : rd_ok a = true) (hM : am_prog[a]? = some M) (hr : rn n M 0 (lv_args 0 as) [] h r h') : rdk h h' := by
  obtain ⟨-, hG, nc, ns, m, -, hrun⟩ := hr
  exact (rw_run (rd_wP (fun o k => h o k)) (fun a M ha_z hM => Or.inl (rd_K ha_z hM)) m M _ _ _ h nc ns _ (rd_K ha_z hM) (fun j hj_z => rd_K ha_z hM j (List.mem_of_mem_drop hj_z)) ⟨hG, fun _ _ _ => rfl, rfl⟩ hrun).2.2
theorem rd_v {h h' : am_H} {o k : Nat} (a : rdk h h') (ho : ¬ o = 44) : rg_v h' o k = rg_v h o k := by
  unfold rg_v
  rw [a.1 o k ho]
/-- the bounds of the plan at p -/
def pv1_z (p : Nat) (h : am_H) : Prop := 1 ≤ (rg_v h p 0).toInt ∧ 0 ≤ (rg_v h p 1).toInt
def pv2_z (p : Nat) (h : am_H) : Prop := ∀ b : Nat, (b : Int) < (rg_v h p 2).toInt → 1 ≤ (rg_v h (p + 17 + b) 1).toInt ∧ 1 ≤ (rg_v h (p + 17 + b) 3).toInt ∧ 1 ≤ (rg_v h (p + 17 + b) 4).toInt
def pv3_z (p : Nat) (h : am_H) : Prop := ∀ t : Nat, (t : Int) < (rg_v h p 4).toInt → 0 ≤ (rg_v h (p + 2) t).toInt ∧ (rg_v h (p + 2) t).toInt < (rg_v h p 2).toInt ∧ 1 ≤ (rg_v h (p + 3) t).toInt
def pv4_z (p : Nat) (h : am_H) : Prop := (rg_v h p 7 = 0 ∧ rg_v h p 8 = 0) ∨ (1 ≤ (rg_v h p 7).toInt ∧ 1 ≤ (rg_v h p 8).toInt)
def pv5_z (p : Nat) (h : am_H) : Prop := ∀ l : Nat, (l : Int) < (rg_v h p 9).toInt → 1 ≤ (rg_v h (p + 4) l).toInt
def pv6_z (p : Nat) (h : am_H) : Prop := ∀ t : Nat, (t : Int) < (rg_v h p 12).toInt → 1 ≤ (rg_v h (p + 7) t).toInt ∧ (rg_v h (p + 7) t).toInt ≤ 100 ∧ 1 ≤ (rg_v h (p + 8) t).toInt
def pv7_z (p : Nat) (h : am_H) : Prop := (0 ≤ (rg_v h p 2).toInt ∧ (rg_v h p 2).toInt ≤ 4) ∧ (0 ≤ (rg_v h p 4).toInt ∧ (rg_v h p 4).toInt ≤ 8) ∧ (0 ≤ (rg_v h p 9).toInt ∧ (rg_v h p 9).toInt ≤ 6) ∧ (0 ≤ (rg_v h p 12).toInt ∧ (rg_v h p 12).toInt ≤ 3)
def pv (p : Nat) (h : am_H) : Prop := pv1_z p h ∧ pv2_z p h ∧ pv3_z p h ∧ pv4_z p h ∧ pv5_z p h ∧ pv6_z p h ∧ pv7_z p h
theorem pv1_e {p : Nat} {h h' : am_H} (e : ∀ o k, o = p ∧ (k = 0 ∨ k = 1) → rg_v h' o k = rg_v h o k) (V : pv1_z p h) : pv1_z p h' := by
  unfold pv1_z
  rw [e p 0 (by omega), e p 1 (by omega)]
  exact V
theorem pv2_e {p : Nat} {h h' : am_H} (n : pv7_z p h) (e : ∀ o k, (o = p ∧ k = 2) ∨ (p + 17 ≤ o ∧ o ≤ p + 20) → rg_v h' o k = rg_v h o k) (V : pv2_z p h) : pv2_z p h' := by
  intro b hb_z
  rw [e p 2 (by omega)] at hb_z
  have := n.1.2
  rw [e (p + 17 + b) 1 (by omega), e (p + 17 + b) 3 (by omega), e (p + 17 + b) 4 (by omega)]
  exact V b hb_z
theorem pv3_e {p : Nat} {h h' : am_H} (e : ∀ o k, (o = p ∧ (k = 2 ∨ k = 4)) ∨ (p + 2 ≤ o ∧ o ≤ p + 3) → rg_v h' o k = rg_v h o k) (V : pv3_z p h) : pv3_z p h' := by
  intro t ht
  rw [e p 4 (by omega)] at ht
  rw [e p 2 (by omega), e (p + 2) t (by omega), e (p + 3) t (by omega)]
  exact V t ht
theorem pv4_e {p : Nat} {h h' : am_H} (e : ∀ o k, o = p ∧ (k = 7 ∨ k = 8) → rg_v h' o k = rg_v h o k) (V : pv4_z p h) : pv4_z p h' := by
  unfold pv4_z
  rw [e p 7 (by omega), e p 8 (by omega)]
  exact V
theorem pv5_e {p : Nat} {h h' : am_H} (e : ∀ o k, (o = p ∧ k = 9) ∨ o = p + 4 → rg_v h' o k = rg_v h o k) (V : pv5_z p h) : pv5_z p h' := by
  intro l hl_z
  rw [e p 9 (by omega)] at hl_z
  rw [e (p + 4) l (by omega)]
  exact V l hl_z
theorem pv6_e {p : Nat} {h h' : am_H} (e : ∀ o k, (o = p ∧ k = 12) ∨ (p + 7 ≤ o ∧ o ≤ p + 8) → rg_v h' o k = rg_v h o k) (V : pv6_z p h) : pv6_z p h' := by
  intro t ht
  rw [e p 12 (by omega)] at ht
  rw [e (p + 7) t (by omega), e (p + 8) t (by omega)]
  exact V t ht
theorem pv7_e {p : Nat} {h h' : am_H} (e : ∀ o k, o = p ∧ (k = 2 ∨ k = 4 ∨ k = 9 ∨ k = 12) → rg_v h' o k = rg_v h o k) (V : pv7_z p h) : pv7_z p h' := by
  unfold pv7_z
  rw [e p 2 (by omega), e p 4 (by omega), e p 9 (by omega), e p 12 (by omega)]
  exact V
/-- a plan's places -/
def pQ (p o k : Nat) : Prop := (o = p ∧ ¬ k = 18) ∨ (p + 2 ≤ o ∧ o ≤ p + 8) ∨ (p + 17 ≤ o ∧ o ≤ p + 20)
theorem pv_e {p : Nat} {h h' : am_H} (e : ∀ o k, pQ p o k → rg_v h' o k = rg_v h o k) (V : pv p h) : pv p h' := by
  have f : ∀ o k, ((o = p ∧ ¬ k = 18) ∨ (p + 2 ≤ o ∧ o ≤ p + 8) ∨ (p + 17 ≤ o ∧ o ≤ p + 20)) → rg_v h' o k = rg_v h o k := e
  obtain ⟨v1_z, v2_z, v3_z, v4_z, v5_z, v6_z, v7_z⟩ := V
  exact ⟨pv1_e (fun o k q => f o k (by omega)) v1_z, pv2_e v7_z (fun o k q => f o k (by omega)) v2_z, pv3_e (fun o k q => f o k (by omega)) v3_z, pv4_e (fun o k q => f o k (by omega)) v4_z, pv5_e (fun o k q => f o k (by omega)) v5_z, pv6_e (fun o k q => f o k (by omega)) v6_z, pv7_e (fun o k q => f o k (by omega)) v7_z⟩
theorem pv_rd {p : Nat} {h h' : am_H} (hp_z : p = 2 ∨ p = 23) (a : rdk h h') (V : pv p h) : pv p h' := pv_e (fun o k q => rd_v a (fun e => by unfold pQ at q; omega)) V
theorem sd_29 {n : Nat} {h h' : am_H} {r : Option Value} {w : Int32}  (hc_z : rn n am_m29 0 (lv_args 0 [.ref 44, .int w]) [] h r h') : ((¬ (rg_v h 44 1) = (0 : Int32) ∧ ¬ (rg_v h 44 1).toInt = (0 : Int32).toInt) ∧ r = none ∧ h' = h) ∨ (((rg_v h 44 1) = (0 : Int32) ∧ (rg_v h 44 1).toInt = (0 : Int32).toInt) ∧ r = none ∧ h' = (am_up (am_up h 44 1 (.int w)) 44 2 (.int (rg_v h 44 9)))) := by
  have g0_z : am_get (lv_args 0 [.ref 44, .int w]) 0 = some (.ref 44) := rfl
  have g1_z : am_get (lv_args 0 [.ref 44, .int w]) 1 = some (.int w) := rfl
  replace hc_z := rn_aload_n (am_cur_of (i := (0, 1, .aload_n 0, (0, 0, 0), 0)) (by decide +kernel)) g0_z hc_z
  replace hc_z := rn_getI (v := rg_v h 44 1) (am_cur_of (i := (1, 3, .getfield 51, (4, 1, 408), 0)) (by decide +kernel)) (by decide +kernel) rfl hc_z
  replace hc_z := rn_if (am_cur_of (i := (4, 3, .ifCond .ne 16, (10, 0, 0), 0)) (by decide +kernel)) hc_z
  rcases hc_z with ⟨b1_z, hc_z⟩ | ⟨b1_z, hc_z⟩
  · replace b1_z : ¬ (rg_v h 44 1) = (0 : Int32) ∧ ¬ (rg_v h 44 1).toInt = (0 : Int32).toInt := b1_z
    replace hc_z := rn_vret (am_cur_of (i := (20, 1, .return_, (0, 0, 0), 0)) (by decide +kernel)) hc_z
    obtain ⟨e2_z, e3_z⟩ := hc_z
    exact Or.inl ⟨b1_z, e2_z, e3_z⟩
  · replace b1_z : (rg_v h 44 1) = (0 : Int32) ∧ (rg_v h 44 1).toInt = (0 : Int32).toInt := b1_z
    replace hc_z := rn_aload_n (am_cur_of (i := (7, 1, .aload_n 0, (0, 0, 0), 0)) (by decide +kernel)) g0_z hc_z
    replace hc_z := rn_iload_n (am_cur_of (i := (8, 1, .iload_n 1, (0, 0, 0), 0)) (by decide +kernel)) g1_z hc_z
    replace hc_z := rn_put (am_cur_of (i := (9, 3, .putfield 51, (4, 1, 408), 0)) (by decide +kernel)) (by decide +kernel) hc_z
    replace hc_z := rn_aload_n (am_cur_of (i := (12, 1, .aload_n 0, (0, 0, 0), 0)) (by decide +kernel)) g0_z hc_z
    replace hc_z := rn_aload_n (am_cur_of (i := (13, 1, .aload_n 0, (0, 0, 0), 0)) (by decide +kernel)) g0_z hc_z
    replace hc_z := rn_getI (v := rg_v h 44 9) (am_cur_of (i := (14, 3, .getfield 72, (4, 9, 418), 0)) (by decide +kernel)) (by decide +kernel) (show rg_v (am_up h 44 1 (.int w)) 44 9 = rg_v h 44 9 from rfl) hc_z
    replace hc_z := rn_put (am_cur_of (i := (17, 3, .putfield 9, (4, 2, 410), 0)) (by decide +kernel)) (by decide +kernel) hc_z
    replace hc_z := rn_vret (am_cur_of (i := (20, 1, .return_, (0, 0, 0), 0)) (by decide +kernel)) hc_z
    obtain ⟨e4_z, e5_z⟩ := hc_z
    exact Or.inr (⟨b1_z, e4_z, e5_z⟩)
theorem sd_30 {n : Nat} {r : Option Value} {h h' : am_H} {lo hi_z : Int32} (lh : lo.toInt ≤ hi_z.toInt) (hc_z : rn n am_m30 0 (lv_args 0 [.ref 44, .int lo, .int hi_z]) [] h r h') : ∃ v : Int32, r = some (.int v) ∧ lo.toInt ≤ v.toInt ∧ v.toInt ≤ hi_z.toInt := by
  have z0_z : (0 : Int32).toInt = 0 := by decide
  have z4_z : (4 : Int32).toInt = 4 := by decide
  have g0_z : am_get (lv_args 0 [.ref 44, .int lo, .int hi_z]) 0 = some (.ref 44) := rfl
  have g1_z : am_get (lv_args 0 [.ref 44, .int lo, .int hi_z]) 1 = some (.int lo) := rfl
  have g2_z : am_get (lv_args 0 [.ref 44, .int lo, .int hi_z]) 2 = some (.int hi_z) := rfl
  replace hc_z := rn_aload_n (am_cur_of (i := (0, 1, .aload_n 0, (0, 0, 0), 0)) (by decide +kernel)) g0_z hc_z
  replace hc_z := rn_getI (v := rg_v h 44 1) (am_cur_of (i := (1, 3, .getfield 51, (4, 1, 408), 0)) (by decide +kernel)) (by decide +kernel) rfl hc_z
  replace hc_z := rn_if (am_cur_of (i := (4, 3, .ifCond .eq 5, (5, 0, 0), 0)) (by decide +kernel)) hc_z
  rcases hc_z with ⟨b6_z, hc_z⟩ | ⟨b6_z, hc_z⟩
  · replace b6_z : (rg_v h 44 1) = (0 : Int32) ∧ (rg_v h 44 1).toInt = (0 : Int32).toInt := b6_z
    replace hc_z := rn_aload_n (am_cur_of (i := (9, 1, .aload_n 0, (0, 0, 0), 0)) (by decide +kernel)) g0_z hc_z
    replace hc_z := rn_getI (v := rg_v h 44 11) (am_cur_of (i := (10, 3, .getfield 91, (4, 11, 420), 0)) (by decide +kernel)) (by decide +kernel) rfl hc_z
    replace hc_z := rn_istore_n (am_cur_of (i := (13, 1, .istore_n 3, (0, 0, 0), 0)) (by decide +kernel)) hc_z
    obtain ⟨_, s7_z, s8_z, g3_z, hc_z⟩ := hc_z
    replace g0_z := s7_z 0 _ (by decide) rfl g0_z
    replace g1_z := s7_z 1 _ (by decide) rfl g1_z
    replace g2_z := s7_z 2 _ (by decide) rfl g2_z
    clear s7_z s8_z
    replace hc_z := rn_aload_n (am_cur_of (i := (14, 1, .aload_n 0, (0, 0, 0), 0)) (by decide +kernel)) g0_z hc_z
    replace hc_z := rn_getI (v := rg_v h 44 10) (am_cur_of (i := (15, 3, .getfield 60, (4, 10, 419), 0)) (by decide +kernel)) (by decide +kernel) rfl hc_z
    replace hc_z := rn_iconst (w := 4) (am_cur_of (i := (18, 1, .iconst 4, (0, 0, 0), 0)) (by decide +kernel)) (by decide) hc_z
    replace hc_z := rn_cmp (am_cur_of (i := (19, 3, .if_icmp .eq 11, (16, 0, 0), 0)) (by decide +kernel)) hc_z
    rcases hc_z with ⟨b9_z, hc_z⟩ | ⟨b9_z, hc_z⟩
    · replace b9_z : (rg_v h 44 10) = (4 : Int32) ∧ (rg_v h 44 10).toInt = (4 : Int32).toInt := b9_z
      replace hc_z := rn_iload_n (am_cur_of (i := (30, 1, .iload_n 3, (0, 0, 0), 0)) (by decide +kernel)) g3_z hc_z
      replace hc_z := rn_iload_n (am_cur_of (i := (31, 1, .iload_n 1, (0, 0, 0), 0)) (by decide +kernel)) g1_z hc_z
      replace hc_z := rn_cmp (am_cur_of (i := (32, 3, .if_icmp .lt 8, (22, 0, 0), 0)) (by decide +kernel)) hc_z
      rcases hc_z with ⟨b10_z, hc_z⟩ | ⟨b10_z, hc_z⟩
      · replace b10_z : (rg_v h 44 11).toInt < lo.toInt := b10_z
        replace hc_z := rn_aload_n (am_cur_of (i := (40, 1, .aload_n 0, (0, 0, 0), 0)) (by decide +kernel)) g0_z hc_z
        replace hc_z := rn_iconst (w := 2) (am_cur_of (i := (41, 1, .iconst 2, (0, 0, 0), 0)) (by decide +kernel)) (by decide) hc_z
        replace hc_z := rn_callV (M' := am_m29) (o := 44) (ar := [.int 2]) (rest := []) (L := lv_args 0 [.ref 44, .int 2]) (am_cur_of (i := (42, 3, .invokevirtual 108, (29, 769, 3), 0)) (by decide +kernel)) rfl rfl rfl rfl hc_z
        obtain ⟨r11_z, h12_z, q13_z, hc_z⟩ := hc_z
        rcases sd_29 q13_z with ⟨b14_z, rfl, y15_z⟩ | ⟨b16_z, rfl, y17_z⟩
        · replace y15_z := y15_z.symm
          subst y15_z
          replace b14_z : ¬ ((rg_v h 44 1)) = (0 : Int32) ∧ ¬ ((rg_v h 44 1)).toInt = (0 : Int32).toInt := b14_z
          replace hc_z : rn _ _ _ _ [] _ _ _ := hc_z
          replace hc_z := rn_aload_n (am_cur_of (i := (45, 1, .aload_n 0, (0, 0, 0), 0)) (by decide +kernel)) g0_z hc_z
          replace hc_z := rn_getI (v := rg_v h 44 1) (am_cur_of (i := (46, 3, .getfield 51, (4, 1, 408), 0)) (by decide +kernel)) (by decide +kernel) rfl hc_z
          replace hc_z := rn_if (am_cur_of (i := (49, 3, .ifCond .eq 5, (30, 0, 0), 0)) (by decide +kernel)) hc_z
          rcases hc_z with ⟨b18_z, hc_z⟩ | ⟨b18_z, hc_z⟩
          · replace b18_z : (rg_v h 44 1) = (0 : Int32) ∧ (rg_v h 44 1).toInt = (0 : Int32).toInt := b18_z
            replace hc_z := rn_aload_n (am_cur_of (i := (54, 1, .aload_n 0, (0, 0, 0), 0)) (by decide +kernel)) g0_z hc_z
            replace hc_z := rn_callV (M' := am_m19) (o := 44) (ar := []) (rest := []) (L := lv_args 0 [.ref 44]) (am_cur_of (i := (55, 3, .invokevirtual 57, (19, 727, 3), 0)) (by decide +kernel)) rfl rfl rfl rfl hc_z
            obtain ⟨r19_z, h20_z, q21_z, hc_z⟩ := hc_z
            have vo := rn_void rfl q21_z
            subst vo
            replace hc_z : rn _ _ _ _ [] _ _ _ := hc_z
            replace hc_z := rn_iload_n (am_cur_of (i := (58, 1, .iload_n 3, (0, 0, 0), 0)) (by decide +kernel)) g3_z hc_z
            replace hc_z := rn_iret (am_cur_of (i := (59, 1, .ireturn, (0, 0, 0), 0)) (by decide +kernel)) hc_z
            obtain ⟨e22_z, e23_z⟩ := hc_z
            exact ⟨_, e22_z, by omega, by omega⟩
          · replace b18_z : ¬ (rg_v h 44 1) = (0 : Int32) ∧ ¬ (rg_v h 44 1).toInt = (0 : Int32).toInt := b18_z
            replace hc_z := rn_iload_n (am_cur_of (i := (52, 1, .iload_n 1, (0, 0, 0), 0)) (by decide +kernel)) g1_z hc_z
            replace hc_z := rn_iret (am_cur_of (i := (53, 1, .ireturn, (0, 0, 0), 0)) (by decide +kernel)) hc_z
            obtain ⟨e24_z, e25_z⟩ := hc_z
            exact ⟨_, e24_z, by omega, by omega⟩
        · replace y17_z := y17_z.symm
          subst y17_z
          replace b16_z : ((rg_v h 44 1)) = (0 : Int32) ∧ ((rg_v h 44 1)).toInt = (0 : Int32).toInt := b16_z
          replace hc_z : rn _ _ _ _ [] _ _ _ := hc_z
          replace hc_z := rn_aload_n (am_cur_of (i := (45, 1, .aload_n 0, (0, 0, 0), 0)) (by decide +kernel)) g0_z hc_z
          replace hc_z := rn_getI (v := 2) (am_cur_of (i := (46, 3, .getfield 51, (4, 1, 408), 0)) (by decide +kernel)) (by decide +kernel) ((rg_v_other (by omega)).trans (rg_v_self)) hc_z
          replace hc_z := rn_ifF (am_cur_of (i := (49, 3, .ifCond .eq 5, (30, 0, 0), 0)) (by decide +kernel)) (by decide) hc_z
          replace hc_z := rn_iload_n (am_cur_of (i := (52, 1, .iload_n 1, (0, 0, 0), 0)) (by decide +kernel)) g1_z hc_z
          replace hc_z := rn_iret (am_cur_of (i := (53, 1, .ireturn, (0, 0, 0), 0)) (by decide +kernel)) hc_z
          obtain ⟨e26_z, e27_z⟩ := hc_z
          exact ⟨_, e26_z, by omega, by omega⟩
      · replace b10_z : lo.toInt ≤ (rg_v h 44 11).toInt := b10_z
        replace hc_z := rn_iload_n (am_cur_of (i := (35, 1, .iload_n 3, (0, 0, 0), 0)) (by decide +kernel)) g3_z hc_z
        replace hc_z := rn_iload_n (am_cur_of (i := (36, 1, .iload_n 2, (0, 0, 0), 0)) (by decide +kernel)) g2_z hc_z
        replace hc_z := rn_cmp (am_cur_of (i := (37, 3, .if_icmp .le 8, (25, 0, 0), 0)) (by decide +kernel)) hc_z
        rcases hc_z with ⟨b28_z, hc_z⟩ | ⟨b28_z, hc_z⟩
        · replace b28_z : (rg_v h 44 11).toInt ≤ hi_z.toInt := b28_z
          replace hc_z := rn_aload_n (am_cur_of (i := (45, 1, .aload_n 0, (0, 0, 0), 0)) (by decide +kernel)) g0_z hc_z
          replace hc_z := rn_getI (v := rg_v h 44 1) (am_cur_of (i := (46, 3, .getfield 51, (4, 1, 408), 0)) (by decide +kernel)) (by decide +kernel) rfl hc_z
          replace hc_z := rn_if (am_cur_of (i := (49, 3, .ifCond .eq 5, (30, 0, 0), 0)) (by decide +kernel)) hc_z
          rcases hc_z with ⟨b29_z, hc_z⟩ | ⟨b29_z, hc_z⟩
          · replace b29_z : (rg_v h 44 1) = (0 : Int32) ∧ (rg_v h 44 1).toInt = (0 : Int32).toInt := b29_z
            replace hc_z := rn_aload_n (am_cur_of (i := (54, 1, .aload_n 0, (0, 0, 0), 0)) (by decide +kernel)) g0_z hc_z
            replace hc_z := rn_callV (M' := am_m19) (o := 44) (ar := []) (rest := []) (L := lv_args 0 [.ref 44]) (am_cur_of (i := (55, 3, .invokevirtual 57, (19, 727, 3), 0)) (by decide +kernel)) rfl rfl rfl rfl hc_z
            obtain ⟨r30_z, h31_z, q32_z, hc_z⟩ := hc_z
            have vo := rn_void rfl q32_z
            subst vo
            replace hc_z : rn _ _ _ _ [] _ _ _ := hc_z
            replace hc_z := rn_iload_n (am_cur_of (i := (58, 1, .iload_n 3, (0, 0, 0), 0)) (by decide +kernel)) g3_z hc_z
            replace hc_z := rn_iret (am_cur_of (i := (59, 1, .ireturn, (0, 0, 0), 0)) (by decide +kernel)) hc_z
            obtain ⟨e33_z, e34_z⟩ := hc_z
            exact ⟨_, e33_z, by omega, by omega⟩
          · replace b29_z : ¬ (rg_v h 44 1) = (0 : Int32) ∧ ¬ (rg_v h 44 1).toInt = (0 : Int32).toInt := b29_z
            replace hc_z := rn_iload_n (am_cur_of (i := (52, 1, .iload_n 1, (0, 0, 0), 0)) (by decide +kernel)) g1_z hc_z
            replace hc_z := rn_iret (am_cur_of (i := (53, 1, .ireturn, (0, 0, 0), 0)) (by decide +kernel)) hc_z
            obtain ⟨e35_z, e36_z⟩ := hc_z
            exact ⟨_, e35_z, by omega, by omega⟩
        · replace b28_z : hi_z.toInt < (rg_v h 44 11).toInt := b28_z
          replace hc_z := rn_aload_n (am_cur_of (i := (40, 1, .aload_n 0, (0, 0, 0), 0)) (by decide +kernel)) g0_z hc_z
          replace hc_z := rn_iconst (w := 2) (am_cur_of (i := (41, 1, .iconst 2, (0, 0, 0), 0)) (by decide +kernel)) (by decide) hc_z
          replace hc_z := rn_callV (M' := am_m29) (o := 44) (ar := [.int 2]) (rest := []) (L := lv_args 0 [.ref 44, .int 2]) (am_cur_of (i := (42, 3, .invokevirtual 108, (29, 769, 3), 0)) (by decide +kernel)) rfl rfl rfl rfl hc_z
          obtain ⟨r37_z, h38_z, q39_z, hc_z⟩ := hc_z
          rcases sd_29 q39_z with ⟨b40_z, rfl, y41_z⟩ | ⟨b42_z, rfl, y43_z⟩
          · replace y41_z := y41_z.symm
            subst y41_z
            replace b40_z : ¬ ((rg_v h 44 1)) = (0 : Int32) ∧ ¬ ((rg_v h 44 1)).toInt = (0 : Int32).toInt := b40_z
            replace hc_z : rn _ _ _ _ [] _ _ _ := hc_z
            replace hc_z := rn_aload_n (am_cur_of (i := (45, 1, .aload_n 0, (0, 0, 0), 0)) (by decide +kernel)) g0_z hc_z
            replace hc_z := rn_getI (v := rg_v h 44 1) (am_cur_of (i := (46, 3, .getfield 51, (4, 1, 408), 0)) (by decide +kernel)) (by decide +kernel) rfl hc_z
            replace hc_z := rn_if (am_cur_of (i := (49, 3, .ifCond .eq 5, (30, 0, 0), 0)) (by decide +kernel)) hc_z
            rcases hc_z with ⟨b44_z, hc_z⟩ | ⟨b44_z, hc_z⟩
            · replace b44_z : (rg_v h 44 1) = (0 : Int32) ∧ (rg_v h 44 1).toInt = (0 : Int32).toInt := b44_z
              replace hc_z := rn_aload_n (am_cur_of (i := (54, 1, .aload_n 0, (0, 0, 0), 0)) (by decide +kernel)) g0_z hc_z
              replace hc_z := rn_callV (M' := am_m19) (o := 44) (ar := []) (rest := []) (L := lv_args 0 [.ref 44]) (am_cur_of (i := (55, 3, .invokevirtual 57, (19, 727, 3), 0)) (by decide +kernel)) rfl rfl rfl rfl hc_z
              obtain ⟨r45_z, h46_z, q47_z, hc_z⟩ := hc_z
              have vo := rn_void rfl q47_z
              subst vo
              replace hc_z : rn _ _ _ _ [] _ _ _ := hc_z
              replace hc_z := rn_iload_n (am_cur_of (i := (58, 1, .iload_n 3, (0, 0, 0), 0)) (by decide +kernel)) g3_z hc_z
              replace hc_z := rn_iret (am_cur_of (i := (59, 1, .ireturn, (0, 0, 0), 0)) (by decide +kernel)) hc_z
              obtain ⟨e48_z, e49_z⟩ := hc_z
              exact ⟨_, e48_z, by omega, by omega⟩
            · replace b44_z : ¬ (rg_v h 44 1) = (0 : Int32) ∧ ¬ (rg_v h 44 1).toInt = (0 : Int32).toInt := b44_z
              replace hc_z := rn_iload_n (am_cur_of (i := (52, 1, .iload_n 1, (0, 0, 0), 0)) (by decide +kernel)) g1_z hc_z
              replace hc_z := rn_iret (am_cur_of (i := (53, 1, .ireturn, (0, 0, 0), 0)) (by decide +kernel)) hc_z
              obtain ⟨e50_z, e51_z⟩ := hc_z
              exact ⟨_, e50_z, by omega, by omega⟩
          · replace y43_z := y43_z.symm
            subst y43_z
            replace b42_z : ((rg_v h 44 1)) = (0 : Int32) ∧ ((rg_v h 44 1)).toInt = (0 : Int32).toInt := b42_z
            replace hc_z : rn _ _ _ _ [] _ _ _ := hc_z
            replace hc_z := rn_aload_n (am_cur_of (i := (45, 1, .aload_n 0, (0, 0, 0), 0)) (by decide +kernel)) g0_z hc_z
            replace hc_z := rn_getI (v := 2) (am_cur_of (i := (46, 3, .getfield 51, (4, 1, 408), 0)) (by decide +kernel)) (by decide +kernel) ((rg_v_other (by omega)).trans (rg_v_self)) hc_z
            replace hc_z := rn_ifF (am_cur_of (i := (49, 3, .ifCond .eq 5, (30, 0, 0), 0)) (by decide +kernel)) (by decide) hc_z
            replace hc_z := rn_iload_n (am_cur_of (i := (52, 1, .iload_n 1, (0, 0, 0), 0)) (by decide +kernel)) g1_z hc_z
            replace hc_z := rn_iret (am_cur_of (i := (53, 1, .ireturn, (0, 0, 0), 0)) (by decide +kernel)) hc_z
            obtain ⟨e52_z, e53_z⟩ := hc_z
            exact ⟨_, e52_z, by omega, by omega⟩
    · replace b9_z : ¬ (rg_v h 44 10) = (4 : Int32) ∧ ¬ (rg_v h 44 10).toInt = (4 : Int32).toInt := b9_z
      replace hc_z := rn_aload_n (am_cur_of (i := (22, 1, .aload_n 0, (0, 0, 0), 0)) (by decide +kernel)) g0_z hc_z
      replace hc_z := rn_iconst (w := 1) (am_cur_of (i := (23, 1, .iconst 1, (0, 0, 0), 0)) (by decide +kernel)) (by decide) hc_z
      replace hc_z := rn_callV (M' := am_m29) (o := 44) (ar := [.int 1]) (rest := []) (L := lv_args 0 [.ref 44, .int 1]) (am_cur_of (i := (24, 3, .invokevirtual 108, (29, 769, 3), 0)) (by decide +kernel)) rfl rfl rfl rfl hc_z
      obtain ⟨r54_z, h55_z, q56_z, hc_z⟩ := hc_z
      rcases sd_29 q56_z with ⟨b57_z, rfl, y58_z⟩ | ⟨b59_z, rfl, y60_z⟩
      · replace y58_z := y58_z.symm
        subst y58_z
        replace b57_z : ¬ ((rg_v h 44 1)) = (0 : Int32) ∧ ¬ ((rg_v h 44 1)).toInt = (0 : Int32).toInt := b57_z
        replace hc_z : rn _ _ _ _ [] _ _ _ := hc_z
        replace hc_z := rn_goto (am_cur_of (i := (27, 3, .goto 18, (25, 0, 0), 0)) (by decide +kernel)) hc_z
        replace hc_z := rn_aload_n (am_cur_of (i := (45, 1, .aload_n 0, (0, 0, 0), 0)) (by decide +kernel)) g0_z hc_z
        replace hc_z := rn_getI (v := rg_v h 44 1) (am_cur_of (i := (46, 3, .getfield 51, (4, 1, 408), 0)) (by decide +kernel)) (by decide +kernel) rfl hc_z
        replace hc_z := rn_if (am_cur_of (i := (49, 3, .ifCond .eq 5, (30, 0, 0), 0)) (by decide +kernel)) hc_z
        rcases hc_z with ⟨b61_z, hc_z⟩ | ⟨b61_z, hc_z⟩
        · replace b61_z : (rg_v h 44 1) = (0 : Int32) ∧ (rg_v h 44 1).toInt = (0 : Int32).toInt := b61_z
          replace hc_z := rn_aload_n (am_cur_of (i := (54, 1, .aload_n 0, (0, 0, 0), 0)) (by decide +kernel)) g0_z hc_z
          replace hc_z := rn_callV (M' := am_m19) (o := 44) (ar := []) (rest := []) (L := lv_args 0 [.ref 44]) (am_cur_of (i := (55, 3, .invokevirtual 57, (19, 727, 3), 0)) (by decide +kernel)) rfl rfl rfl rfl hc_z
          obtain ⟨r62_z, h63_z, q64_z, hc_z⟩ := hc_z
          have vo := rn_void rfl q64_z
          subst vo
          replace hc_z : rn _ _ _ _ [] _ _ _ := hc_z
          replace hc_z := rn_iload_n (am_cur_of (i := (58, 1, .iload_n 3, (0, 0, 0), 0)) (by decide +kernel)) g3_z hc_z
          replace hc_z := rn_iret (am_cur_of (i := (59, 1, .ireturn, (0, 0, 0), 0)) (by decide +kernel)) hc_z
          obtain ⟨e65_z, e66_z⟩ := hc_z
          exact ⟨_, e65_z, by omega, by omega⟩
        · replace b61_z : ¬ (rg_v h 44 1) = (0 : Int32) ∧ ¬ (rg_v h 44 1).toInt = (0 : Int32).toInt := b61_z
          replace hc_z := rn_iload_n (am_cur_of (i := (52, 1, .iload_n 1, (0, 0, 0), 0)) (by decide +kernel)) g1_z hc_z
          replace hc_z := rn_iret (am_cur_of (i := (53, 1, .ireturn, (0, 0, 0), 0)) (by decide +kernel)) hc_z
          obtain ⟨e67_z, e68_z⟩ := hc_z
          exact ⟨_, e67_z, by omega, by omega⟩
      · replace y60_z := y60_z.symm
        subst y60_z
        replace b59_z : ((rg_v h 44 1)) = (0 : Int32) ∧ ((rg_v h 44 1)).toInt = (0 : Int32).toInt := b59_z
        replace hc_z : rn _ _ _ _ [] _ _ _ := hc_z
        replace hc_z := rn_goto (am_cur_of (i := (27, 3, .goto 18, (25, 0, 0), 0)) (by decide +kernel)) hc_z
        replace hc_z := rn_aload_n (am_cur_of (i := (45, 1, .aload_n 0, (0, 0, 0), 0)) (by decide +kernel)) g0_z hc_z
        replace hc_z := rn_getI (v := 1) (am_cur_of (i := (46, 3, .getfield 51, (4, 1, 408), 0)) (by decide +kernel)) (by decide +kernel) ((rg_v_other (by omega)).trans (rg_v_self)) hc_z
        replace hc_z := rn_ifF (am_cur_of (i := (49, 3, .ifCond .eq 5, (30, 0, 0), 0)) (by decide +kernel)) (by decide) hc_z
        replace hc_z := rn_iload_n (am_cur_of (i := (52, 1, .iload_n 1, (0, 0, 0), 0)) (by decide +kernel)) g1_z hc_z
        replace hc_z := rn_iret (am_cur_of (i := (53, 1, .ireturn, (0, 0, 0), 0)) (by decide +kernel)) hc_z
        obtain ⟨e69_z, e70_z⟩ := hc_z
        exact ⟨_, e69_z, by omega, by omega⟩
  · replace b6_z : ¬ (rg_v h 44 1) = (0 : Int32) ∧ ¬ (rg_v h 44 1).toInt = (0 : Int32).toInt := b6_z
    replace hc_z := rn_iload_n (am_cur_of (i := (7, 1, .iload_n 1, (0, 0, 0), 0)) (by decide +kernel)) g1_z hc_z
    replace hc_z := rn_iret (am_cur_of (i := (8, 1, .ireturn, (0, 0, 0), 0)) (by decide +kernel)) hc_z
    obtain ⟨e71_z, e72_z⟩ := hc_z
    exact ⟨_, e71_z, by omega, by omega⟩
theorem rp_fr {L : Nat → Int32} {n : Int} {v i : Int32} (h : rp_fm L n v i) : i.toInt = (-1 : Int32).toInt ∨ (0 ≤ i.toInt ∧ i.toInt < n) := by
  rcases h with ⟨a, -⟩ | ⟨a, b, -⟩
  · exact Or.inl (by rw [a])
  · exact Or.inr ⟨a, b⟩
theorem sd_27_2 {n : Nat} {r : Option Value} {h h' : am_H} (D : h 44 6 = .ref 2) (V : pv 2 h) (hc_z : rn n am_m27 0 (lv_args 0 [.ref 44]) [] h r h') : pv 2 h' ∧ h' 44 6 = .ref 2 := by
  have z0_z : (0 : Int32).toInt = 0 := by decide
  have z1_z : (1 : Int32).toInt = 1 := by decide
  have z4_z : (4 : Int32).toInt = 4 := by decide
  have z9999_z : (9999 : Int32).toInt = 9999 := by decide
  have g0_z : am_get (lv_args 0 [.ref 44]) 0 = some (.ref 44) := rfl
  have VV := V
  obtain ⟨v1_z, v2_z, v3_z, v4_z, v5_z, v6_z, ⟨n0_z, n4_z⟩, ⟨t0_z, t8_z⟩, ⟨l0_z, l6_z⟩, ⟨r0_z, r3_z⟩⟩ := V
  replace hc_z := rn_aload_n (am_cur_of (i := (0, 1, .aload_n 0, (0, 0, 0), 0)) (by decide +kernel)) g0_z hc_z
  replace hc_z := rn_iconst (w := 0) (am_cur_of (i := (1, 1, .iconst 0, (0, 0, 0), 0)) (by decide +kernel)) (by decide) hc_z
  replace hc_z := rn_callV (M' := am_m28) (o := 44) (ar := [.int 0]) (rest := []) (L := lv_args 0 [.ref 44, .int 0]) (am_cur_of (i := (2, 3, .invokevirtual 139, (28, 765, 3), 0)) (by decide +kernel)) rfl rfl rfl rfl hc_z
  obtain ⟨r73_z, h74_z, q75_z, hc_z⟩ := hc_z
  have q76_z := rd_of (a := 28) (by decide) rfl q75_z
  have vo := rn_void rfl q75_z
  subst vo
  have D77 : h74_z 44 6 = .ref 2 := q76_z.2.trans D
  replace hc_z : rn _ _ _ _ [] _ _ _ := hc_z
  replace hc_z := rn_aload_n (am_cur_of (i := (5, 1, .aload_n 0, (0, 0, 0), 0)) (by decide +kernel)) g0_z hc_z
  replace hc_z := rn_getM (x := 2) (am_cur_of (i := (6, 3, .getfield 25, (4, 6, 415), 0)) (by decide +kernel)) D77 hc_z
  replace hc_z := rn_aload_n (am_cur_of (i := (9, 1, .aload_n 0, (0, 0, 0), 0)) (by decide +kernel)) g0_z hc_z
  replace hc_z := rn_iconst (w := 1) (am_cur_of (i := (10, 1, .iconst 1, (0, 0, 0), 0)) (by decide +kernel)) (by decide) hc_z
  replace hc_z := rn_sipush (w := 9999) (am_cur_of (i := (11, 3, .sipush 9999, (0, 0, 0), 0)) (by decide +kernel)) (by decide) hc_z
  replace hc_z := rn_callV (M' := am_m30) (o := 44) (ar := [.int 9999, .int 1]) (rest := [.ref 2]) (L := lv_args 0 [.ref 44, .int 1, .int 9999]) (am_cur_of (i := (14, 3, .invokevirtual 142, (30, 773, 3), 0)) (by decide +kernel)) rfl rfl rfl rfl hc_z
  obtain ⟨r78_z, h79_z, q80_z, hc_z⟩ := hc_z
  have q81_z := rd_of (a := 30) (by decide) rfl q80_z
  obtain ⟨v82_z, rfl, lv82_z, uv82_z⟩ := sd_30 (by decide) q80_z
  have D83 : h79_z 44 6 = .ref 2 := q81_z.2.trans D77
  replace hc_z : rn _ _ _ _ [.int v82_z, .ref 2] _ _ _ := hc_z
  replace hc_z := rn_put (am_cur_of (i := (17, 3, .putfield 145, (1, 0, 250), 0)) (by decide +kernel)) (by decide +kernel) hc_z
  replace hc_z := rn_aload_n (am_cur_of (i := (20, 1, .aload_n 0, (0, 0, 0), 0)) (by decide +kernel)) g0_z hc_z
  replace hc_z := rn_getI (v := rg_v h79_z 44 1) (am_cur_of (i := (21, 3, .getfield 51, (4, 1, 408), 0)) (by decide +kernel)) (by decide +kernel) ((rg_v_other (by omega)).trans (rfl)) hc_z
  replace hc_z := rn_if (am_cur_of (i := (24, 3, .ifCond .ne 30, (26, 0, 0), 0)) (by decide +kernel)) hc_z
  rcases hc_z with ⟨b84_z, hc_z⟩ | ⟨b84_z, hc_z⟩
  · replace b84_z : ¬ (rg_v h79_z 44 1) = (0 : Int32) ∧ ¬ (rg_v h79_z 44 1).toInt = (0 : Int32).toInt := b84_z
    replace hc_z := rn_vret (am_cur_of (i := (54, 1, .return_, (0, 0, 0), 0)) (by decide +kernel)) hc_z
    obtain ⟨e85_z, e86_z⟩ := hc_z
    replace e86_z := e86_z.symm
    subst e86_z
    refine ⟨?_, ((up_ne (by omega)).trans (D83))⟩
    have e0_z : rg_v (am_up h79_z 2 0 (.int v82_z)) 2 0 = v82_z := rg_v_self
    have e1_z : rg_v (am_up h79_z 2 0 (.int v82_z)) 2 1 = rg_v h 2 1 := ((rg_v_other (by omega)).trans ((rd_v q81_z (by omega)).trans ((rd_v q76_z (by omega)).trans (rfl))))
    obtain ⟨w1_z, w2_z⟩ := v1_z
    exact ⟨(by unfold pv1_z; rw [e0_z, e1_z]; omega), pv2_e VV.2.2.2.2.2.2 (fun o k q => ((rg_v_other (by omega)).trans ((rd_v q81_z (by omega)).trans ((rd_v q76_z (by omega)).trans (rfl))))) v2_z, pv3_e (fun o k q => ((rg_v_other (by omega)).trans ((rd_v q81_z (by omega)).trans ((rd_v q76_z (by omega)).trans (rfl))))) v3_z, pv4_e (fun o k q => ((rg_v_other (by omega)).trans ((rd_v q81_z (by omega)).trans ((rd_v q76_z (by omega)).trans (rfl))))) v4_z, pv5_e (fun o k q => ((rg_v_other (by omega)).trans ((rd_v q81_z (by omega)).trans ((rd_v q76_z (by omega)).trans (rfl))))) v5_z, pv6_e (fun o k q => ((rg_v_other (by omega)).trans ((rd_v q81_z (by omega)).trans ((rd_v q76_z (by omega)).trans (rfl))))) v6_z, pv7_e (fun o k q => ((rg_v_other (by omega)).trans ((rd_v q81_z (by omega)).trans ((rd_v q76_z (by omega)).trans (rfl))))) VV.2.2.2.2.2.2⟩
  · replace b84_z : (rg_v h79_z 44 1) = (0 : Int32) ∧ (rg_v h79_z 44 1).toInt = (0 : Int32).toInt := b84_z
    replace hc_z := rn_aload_n (am_cur_of (i := (27, 1, .aload_n 0, (0, 0, 0), 0)) (by decide +kernel)) g0_z hc_z
    replace hc_z := rn_getI (v := rg_v h79_z 44 10) (am_cur_of (i := (28, 3, .getfield 60, (4, 10, 419), 0)) (by decide +kernel)) (by decide +kernel) ((rg_v_other (by omega)).trans (rfl)) hc_z
    replace hc_z := rn_iconst (w := 4) (am_cur_of (i := (31, 1, .iconst 4, (0, 0, 0), 0)) (by decide +kernel)) (by decide) hc_z
    replace hc_z := rn_cmp (am_cur_of (i := (32, 3, .if_icmp .ne 22, (26, 0, 0), 0)) (by decide +kernel)) hc_z
    rcases hc_z with ⟨b87_z, hc_z⟩ | ⟨b87_z, hc_z⟩
    · replace b87_z : ¬ (rg_v h79_z 44 10) = (4 : Int32) ∧ ¬ (rg_v h79_z 44 10).toInt = (4 : Int32).toInt := b87_z
      replace hc_z := rn_vret (am_cur_of (i := (54, 1, .return_, (0, 0, 0), 0)) (by decide +kernel)) hc_z
      obtain ⟨e88_z, e89_z⟩ := hc_z
      replace e89_z := e89_z.symm
      subst e89_z
      refine ⟨?_, ((up_ne (by omega)).trans (D83))⟩
      have e0_z : rg_v (am_up h79_z 2 0 (.int v82_z)) 2 0 = v82_z := rg_v_self
      have e1_z : rg_v (am_up h79_z 2 0 (.int v82_z)) 2 1 = rg_v h 2 1 := ((rg_v_other (by omega)).trans ((rd_v q81_z (by omega)).trans ((rd_v q76_z (by omega)).trans (rfl))))
      obtain ⟨w1_z, w2_z⟩ := v1_z
      exact ⟨(by unfold pv1_z; rw [e0_z, e1_z]; omega), pv2_e VV.2.2.2.2.2.2 (fun o k q => ((rg_v_other (by omega)).trans ((rd_v q81_z (by omega)).trans ((rd_v q76_z (by omega)).trans (rfl))))) v2_z, pv3_e (fun o k q => ((rg_v_other (by omega)).trans ((rd_v q81_z (by omega)).trans ((rd_v q76_z (by omega)).trans (rfl))))) v3_z, pv4_e (fun o k q => ((rg_v_other (by omega)).trans ((rd_v q81_z (by omega)).trans ((rd_v q76_z (by omega)).trans (rfl))))) v4_z, pv5_e (fun o k q => ((rg_v_other (by omega)).trans ((rd_v q81_z (by omega)).trans ((rd_v q76_z (by omega)).trans (rfl))))) v5_z, pv6_e (fun o k q => ((rg_v_other (by omega)).trans ((rd_v q81_z (by omega)).trans ((rd_v q76_z (by omega)).trans (rfl))))) v6_z, pv7_e (fun o k q => ((rg_v_other (by omega)).trans ((rd_v q81_z (by omega)).trans ((rd_v q76_z (by omega)).trans (rfl))))) VV.2.2.2.2.2.2⟩
    · replace b87_z : (rg_v h79_z 44 10) = (4 : Int32) ∧ (rg_v h79_z 44 10).toInt = (4 : Int32).toInt := b87_z
      replace hc_z := rn_aload_n (am_cur_of (i := (35, 1, .aload_n 0, (0, 0, 0), 0)) (by decide +kernel)) g0_z hc_z
      replace hc_z := rn_getM (x := 2) (am_cur_of (i := (36, 3, .getfield 25, (4, 6, 415), 0)) (by decide +kernel)) (show (am_up h79_z 2 0 (.int v82_z)) 44 6 = .ref 2 from D83) hc_z
      replace hc_z := rn_aload_n (am_cur_of (i := (39, 1, .aload_n 0, (0, 0, 0), 0)) (by decide +kernel)) g0_z hc_z
      replace hc_z := rn_iconst (w := 0) (am_cur_of (i := (40, 1, .iconst 0, (0, 0, 0), 0)) (by decide +kernel)) (by decide) hc_z
      replace hc_z := rn_aload_n (am_cur_of (i := (41, 1, .aload_n 0, (0, 0, 0), 0)) (by decide +kernel)) g0_z hc_z
      replace hc_z := rn_getM (x := 2) (am_cur_of (i := (42, 3, .getfield 25, (4, 6, 415), 0)) (by decide +kernel)) (show (am_up h79_z 2 0 (.int v82_z)) 44 6 = .ref 2 from D83) hc_z
      replace hc_z := rn_getI (v := v82_z) (am_cur_of (i := (45, 3, .getfield 145, (1, 0, 250), 0)) (by decide +kernel)) (by decide +kernel) rg_v_self hc_z
      replace hc_z := rn_callV (M' := am_m30) (o := 44) (ar := [.int v82_z, .int 0]) (rest := [.ref 2]) (L := lv_args 0 [.ref 44, .int 0, .int v82_z]) (am_cur_of (i := (48, 3, .invokevirtual 142, (30, 773, 3), 0)) (by decide +kernel)) rfl rfl rfl rfl hc_z
      obtain ⟨r90_z, h91_z, q92_z, hc_z⟩ := hc_z
      have q93_z := rd_of (a := 30) (by decide) rfl q92_z
      obtain ⟨v94_z, rfl, lv94_z, uv94_z⟩ := sd_30 (by omega) q92_z
      have D95 : h91_z 44 6 = .ref 2 := q93_z.2.trans (show (am_up h79_z 2 0 (.int v82_z)) 44 6 = .ref 2 from ((up_ne (by omega)).trans (D83)))
      replace hc_z : rn _ _ _ _ [.int v94_z, .ref 2] _ _ _ := hc_z
      replace hc_z := rn_put (am_cur_of (i := (51, 3, .putfield 148, (1, 1, 254), 0)) (by decide +kernel)) (by decide +kernel) hc_z
      replace hc_z := rn_vret (am_cur_of (i := (54, 1, .return_, (0, 0, 0), 0)) (by decide +kernel)) hc_z
      obtain ⟨e96_z, e97_z⟩ := hc_z
      replace e97_z := e97_z.symm
      subst e97_z
      refine ⟨?_, ((up_ne (by omega)).trans (D95))⟩
      have e0_z : rg_v (am_up h91_z 2 1 (.int v94_z)) 2 0 = v82_z := ((rg_v_other (by omega)).trans ((rd_v q93_z (by omega)).trans (rg_v_self)))
      have e1_z : rg_v (am_up h91_z 2 1 (.int v94_z)) 2 1 = v94_z := rg_v_self
      obtain ⟨w1_z, w2_z⟩ := v1_z
      exact ⟨(by unfold pv1_z; rw [e0_z, e1_z]; omega), pv2_e VV.2.2.2.2.2.2 (fun o k q => ((rg_v_other (by omega)).trans ((rd_v q93_z (by omega)).trans ((rg_v_other (by omega)).trans ((rd_v q81_z (by omega)).trans ((rd_v q76_z (by omega)).trans (rfl))))))) v2_z, pv3_e (fun o k q => ((rg_v_other (by omega)).trans ((rd_v q93_z (by omega)).trans ((rg_v_other (by omega)).trans ((rd_v q81_z (by omega)).trans ((rd_v q76_z (by omega)).trans (rfl))))))) v3_z, pv4_e (fun o k q => ((rg_v_other (by omega)).trans ((rd_v q93_z (by omega)).trans ((rg_v_other (by omega)).trans ((rd_v q81_z (by omega)).trans ((rd_v q76_z (by omega)).trans (rfl))))))) v4_z, pv5_e (fun o k q => ((rg_v_other (by omega)).trans ((rd_v q93_z (by omega)).trans ((rg_v_other (by omega)).trans ((rd_v q81_z (by omega)).trans ((rd_v q76_z (by omega)).trans (rfl))))))) v5_z, pv6_e (fun o k q => ((rg_v_other (by omega)).trans ((rd_v q93_z (by omega)).trans ((rg_v_other (by omega)).trans ((rd_v q81_z (by omega)).trans ((rd_v q76_z (by omega)).trans (rfl))))))) v6_z, pv7_e (fun o k q => ((rg_v_other (by omega)).trans ((rd_v q93_z (by omega)).trans ((rg_v_other (by omega)).trans ((rd_v q81_z (by omega)).trans ((rd_v q76_z (by omega)).trans (rfl))))))) VV.2.2.2.2.2.2⟩
theorem sd_31_2 {n : Nat} {r : Option Value} {h h' : am_H} (D : h 44 6 = .ref 2) (V : pv 2 h) (hc_z : rn n am_m31 0 (lv_args 0 [.ref 44]) [] h r h') : pv 2 h' ∧ h' 44 6 = .ref 2 := by
  have zm1_z : ((-1) : Int32).toInt = (-1) := by decide
  have z0_z : (0 : Int32).toInt = 0 := by decide
  have z1_z : (1 : Int32).toInt = 1 := by decide
  have z9_z : (9 : Int32).toInt = 9 := by decide
  have z20_z : (20 : Int32).toInt = 20 := by decide
  have z99_z : (99 : Int32).toInt = 99 := by decide
  have g0_z : am_get (lv_args 0 [.ref 44]) 0 = some (.ref 44) := rfl
  have VV := V
  obtain ⟨v1_z, v2_z, v3_z, v4_z, v5_z, v6_z, ⟨n0_z, n4_z⟩, ⟨t0_z, t8_z⟩, ⟨l0_z, l6_z⟩, ⟨r0_z, r3_z⟩⟩ := V
  replace hc_z := rn_aload_n (am_cur_of (i := (0, 1, .aload_n 0, (0, 0, 0), 0)) (by decide +kernel)) g0_z hc_z
  replace hc_z := rn_aload_n (am_cur_of (i := (1, 1, .aload_n 0, (0, 0, 0), 0)) (by decide +kernel)) g0_z hc_z
  replace hc_z := rn_getM (x := 2) (am_cur_of (i := (2, 3, .getfield 25, (4, 6, 415), 0)) (by decide +kernel)) D hc_z
  replace hc_z := rn_getI (v := rg_v h 2 2) (am_cur_of (i := (5, 3, .getfield 151, (1, 2, 259), 0)) (by decide +kernel)) (by decide +kernel) rfl hc_z
  replace hc_z := rn_iconst (w := 4) (am_cur_of (i := (8, 1, .iconst 4, (0, 0, 0), 0)) (by decide +kernel)) (by decide) hc_z
  replace hc_z := rn_callV (M' := am_m32) (o := 44) (ar := [.int 4, .int (rg_v h 2 2)]) (rest := []) (L := lv_args 0 [.ref 44, .int (rg_v h 2 2), .int 4]) (am_cur_of (i := (9, 3, .invokevirtual 154, (32, 781, 3), 0)) (by decide +kernel)) rfl rfl rfl rfl hc_z
  obtain ⟨r98_z, h99_z, q100_z, hc_z⟩ := hc_z
  have q101_z := rd_of (a := 32) (by decide) rfl q100_z
  obtain ⟨v102_z, rfl⟩ := rn_ret (M := am_m32) rfl (by decide) q100_z
  have D103 : h99_z 44 6 = .ref 2 := q101_z.2.trans D
  replace hc_z : rn _ _ _ _ [.int v102_z] _ _ _ := hc_z
  replace hc_z := rn_if (am_cur_of (i := (12, 3, .ifCond .eq 10, (10, 0, 0), 0)) (by decide +kernel)) hc_z
  rcases hc_z with ⟨b104_z, hc_z⟩ | ⟨b104_z, hc_z⟩
  · replace b104_z : v102_z = (0 : Int32) ∧ v102_z.toInt = (0 : Int32).toInt := b104_z
    replace hc_z := rn_vret (am_cur_of (i := (22, 1, .return_, (0, 0, 0), 0)) (by decide +kernel)) hc_z
    obtain ⟨e105_z, e106_z⟩ := hc_z
    replace e106_z := e106_z.symm
    subst e106_z
    refine ⟨?_, D103⟩
    exact ⟨pv1_e (fun o k q => ((rd_v q101_z (by omega)).trans (rfl))) v1_z, pv2_e VV.2.2.2.2.2.2 (fun o k q => ((rd_v q101_z (by omega)).trans (rfl))) v2_z, pv3_e (fun o k q => ((rd_v q101_z (by omega)).trans (rfl))) v3_z, pv4_e (fun o k q => ((rd_v q101_z (by omega)).trans (rfl))) v4_z, pv5_e (fun o k q => ((rd_v q101_z (by omega)).trans (rfl))) v5_z, pv6_e (fun o k q => ((rd_v q101_z (by omega)).trans (rfl))) v6_z, pv7_e (fun o k q => ((rd_v q101_z (by omega)).trans (rfl))) VV.2.2.2.2.2.2⟩
  · replace b104_z : ¬ v102_z = (0 : Int32) ∧ ¬ v102_z.toInt = (0 : Int32).toInt := b104_z
    replace hc_z := rn_aload_n (am_cur_of (i := (15, 1, .aload_n 0, (0, 0, 0), 0)) (by decide +kernel)) g0_z hc_z
    replace hc_z := rn_callV (M' := am_m33) (o := 44) (ar := []) (rest := []) (L := lv_args 0 [.ref 44]) (am_cur_of (i := (16, 3, .invokevirtual 158, (33, 785, 3), 0)) (by decide +kernel)) rfl rfl rfl rfl hc_z
    obtain ⟨r107_z, h108_z, q109_z, hc_z⟩ := hc_z
    have q110_z := rd_of (a := 33) (by decide) rfl q109_z
    obtain ⟨v111_z, rfl⟩ := rn_ret (M := am_m33) rfl (by decide) q109_z
    have D112 : h108_z 44 6 = .ref 2 := q110_z.2.trans D103
    replace hc_z : rn _ _ _ _ [.int v111_z] _ _ _ := hc_z
    replace hc_z := rn_if (am_cur_of (i := (19, 3, .ifCond .ne 4, (11, 0, 0), 0)) (by decide +kernel)) hc_z
    rcases hc_z with ⟨b113_z, hc_z⟩ | ⟨b113_z, hc_z⟩
    · replace b113_z : ¬ v111_z = (0 : Int32) ∧ ¬ v111_z.toInt = (0 : Int32).toInt := b113_z
      replace hc_z := rn_aload_n (am_cur_of (i := (23, 1, .aload_n 0, (0, 0, 0), 0)) (by decide +kernel)) g0_z hc_z
      replace hc_z := rn_getM (x := 2) (am_cur_of (i := (24, 3, .getfield 25, (4, 6, 415), 0)) (by decide +kernel)) D112 hc_z
      replace hc_z := rn_aload_n (am_cur_of (i := (27, 1, .aload_n 0, (0, 0, 0), 0)) (by decide +kernel)) g0_z hc_z
      replace hc_z := rn_getI (v := rg_v h108_z 44 11) (am_cur_of (i := (28, 3, .getfield 91, (4, 11, 420), 0)) (by decide +kernel)) (by decide +kernel) rfl hc_z
      replace hc_z := rn_callV (M' := am_m34) (o := 2) (ar := [.int (rg_v h108_z 44 11)]) (rest := []) (L := lv_args 0 [.ref 2, .int (rg_v h108_z 44 11)]) (am_cur_of (i := (31, 3, .invokevirtual 162, (34, 789, 3), 0)) (by decide +kernel)) rfl rfl rfl rfl hc_z
      obtain ⟨r114_z, h115_z, q116_z, hc_z⟩ := hc_z
      have q117_z := rd_of (a := 34) (by decide) rfl q116_z
      obtain ⟨v118_z, rfl⟩ := rn_ret (M := am_m34) rfl (by decide) q116_z
      have D119 : h115_z 44 6 = .ref 2 := q117_z.2.trans D112
      replace hc_z : rn _ _ _ _ [.int v118_z] _ _ _ := hc_z
      replace hc_z := rn_iconst (w := (-1)) (am_cur_of (i := (34, 1, .iconst (-1), (0, 0, 0), 0)) (by decide +kernel)) (by decide) hc_z
      replace hc_z := rn_cmp (am_cur_of (i := (35, 3, .if_icmp .eq 9, (22, 0, 0), 0)) (by decide +kernel)) hc_z
      rcases hc_z with ⟨b120_z, hc_z⟩ | ⟨b120_z, hc_z⟩
      · replace b120_z : v118_z = ((-1) : Int32) ∧ v118_z.toInt = ((-1) : Int32).toInt := b120_z
        replace hc_z := rn_aload_n (am_cur_of (i := (44, 1, .aload_n 0, (0, 0, 0), 0)) (by decide +kernel)) g0_z hc_z
        replace hc_z := rn_getM (x := 2) (am_cur_of (i := (45, 3, .getfield 25, (4, 6, 415), 0)) (by decide +kernel)) D119 hc_z
        replace hc_z := rn_getR (x := 3) (am_cur_of (i := (48, 3, .getfield 166, (1, 3, 265), 0)) (by decide +kernel)) (by decide +kernel) hc_z
        replace hc_z := rn_aload_n (am_cur_of (i := (51, 1, .aload_n 0, (0, 0, 0), 0)) (by decide +kernel)) g0_z hc_z
        replace hc_z := rn_getM (x := 2) (am_cur_of (i := (52, 3, .getfield 25, (4, 6, 415), 0)) (by decide +kernel)) D119 hc_z
        replace hc_z := rn_getI (v := rg_v h 2 2) (am_cur_of (i := (55, 3, .getfield 151, (1, 2, 259), 0)) (by decide +kernel)) (by decide +kernel) ((rd_v q117_z (by omega)).trans ((rd_v q110_z (by omega)).trans ((rd_v q101_z (by omega)).trans (rfl)))) hc_z
        replace hc_z := rn_aaload (s := "AirBed$Blower") (N := 4) (q := (rg_v h 2 2).toNatClampNeg) (am_cur_of (i := (58, 1, .aaload, (0, 0, 0), 0)) (by decide +kernel)) (by decide +kernel) rfl hc_z
        obtain ⟨p121_z, hc_z⟩ := hc_z
        rw [rp_bc2 (rn_G hc_z) p121_z.2] at hc_z
        replace hc_z := rn_astore_n (am_cur_of (i := (59, 1, .astore_n 1, (0, 0, 0), 0)) (by decide +kernel)) hc_z
        obtain ⟨_, s122_z, s123_z, g1_z, hc_z⟩ := hc_z
        replace g0_z := s122_z 0 _ (by decide) rfl g0_z
        clear s122_z s123_z
        replace hc_z := rn_aload_n (am_cur_of (i := (60, 1, .aload_n 1, (0, 0, 0), 0)) (by decide +kernel)) g1_z hc_z
        replace hc_z := rn_aload_n (am_cur_of (i := (61, 1, .aload_n 0, (0, 0, 0), 0)) (by decide +kernel)) g0_z hc_z
        replace hc_z := rn_getI (v := rg_v h115_z 44 11) (am_cur_of (i := (62, 3, .getfield 91, (4, 11, 420), 0)) (by decide +kernel)) (by decide +kernel) rfl hc_z
        replace hc_z := rn_put (am_cur_of (i := (65, 3, .putfield 170, (3, 0, 204), 0)) (by decide +kernel)) (by decide +kernel) hc_z
        replace hc_z := rn_aload_n (am_cur_of (i := (68, 1, .aload_n 0, (0, 0, 0), 0)) (by decide +kernel)) g0_z hc_z
        replace hc_z := rn_callV (M' := am_m19) (o := 44) (ar := []) (rest := []) (L := lv_args 0 [.ref 44]) (am_cur_of (i := (69, 3, .invokevirtual 57, (19, 727, 3), 0)) (by decide +kernel)) rfl rfl rfl rfl hc_z
        obtain ⟨r124_z, h125_z, q126_z, hc_z⟩ := hc_z
        have q127_z := rd_of (a := 19) (by decide) rfl q126_z
        have vo := rn_void rfl q126_z
        subst vo
        have D128 : h125_z 44 6 = .ref 2 := q127_z.2.trans (show (am_up h115_z (19 + (rg_v h 2 2).toNatClampNeg) 0 (.int (rg_v h115_z 44 11))) 44 6 = .ref 2 from ((up_ne (by omega)).trans (D119)))
        replace hc_z : rn _ _ _ _ [] _ _ _ := hc_z
        replace hc_z := rn_aload_n (am_cur_of (i := (72, 1, .aload_n 1, (0, 0, 0), 0)) (by decide +kernel)) g1_z hc_z
        replace hc_z := rn_aload_n (am_cur_of (i := (73, 1, .aload_n 0, (0, 0, 0), 0)) (by decide +kernel)) g0_z hc_z
        replace hc_z := rn_iconst (w := 1) (am_cur_of (i := (74, 1, .iconst 1, (0, 0, 0), 0)) (by decide +kernel)) (by decide) hc_z
        replace hc_z := rn_bipush (w := 99) (am_cur_of (i := (75, 2, .bipush 99, (0, 0, 0), 0)) (by decide +kernel)) (by decide) hc_z
        replace hc_z := rn_callV (M' := am_m30) (o := 44) (ar := [.int 99, .int 1]) (rest := [.ref (19 + (rg_v h 2 2).toNatClampNeg)]) (L := lv_args 0 [.ref 44, .int 1, .int 99]) (am_cur_of (i := (77, 3, .invokevirtual 142, (30, 773, 3), 0)) (by decide +kernel)) rfl rfl rfl rfl hc_z
        obtain ⟨r129_z, h130_z, q131_z, hc_z⟩ := hc_z
        have q132_z := rd_of (a := 30) (by decide) rfl q131_z
        obtain ⟨v133_z, rfl, lv133_z, uv133_z⟩ := sd_30 (by decide) q131_z
        have D134 : h130_z 44 6 = .ref 2 := q132_z.2.trans D128
        replace hc_z : rn _ _ _ _ [.int v133_z, .ref (19 + (rg_v h 2 2).toNatClampNeg)] _ _ _ := hc_z
        replace hc_z := rn_put (am_cur_of (i := (80, 3, .putfield 175, (3, 1, 206), 0)) (by decide +kernel)) (by decide +kernel) hc_z
        replace hc_z := rn_aload_n (am_cur_of (i := (83, 1, .aload_n 1, (0, 0, 0), 0)) (by decide +kernel)) g1_z hc_z
        replace hc_z := rn_aload_n (am_cur_of (i := (84, 1, .aload_n 0, (0, 0, 0), 0)) (by decide +kernel)) g0_z hc_z
        replace hc_z := rn_iconst (w := 0) (am_cur_of (i := (85, 1, .iconst 0, (0, 0, 0), 0)) (by decide +kernel)) (by decide) hc_z
        replace hc_z := rn_bipush (w := 20) (am_cur_of (i := (86, 2, .bipush 20, (0, 0, 0), 0)) (by decide +kernel)) (by decide) hc_z
        replace hc_z := rn_callV (M' := am_m30) (o := 44) (ar := [.int 20, .int 0]) (rest := [.ref (19 + (rg_v h 2 2).toNatClampNeg)]) (L := lv_args 0 [.ref 44, .int 0, .int 20]) (am_cur_of (i := (88, 3, .invokevirtual 142, (30, 773, 3), 0)) (by decide +kernel)) rfl rfl rfl rfl hc_z
        obtain ⟨r135_z, h136_z, q137_z, hc_z⟩ := hc_z
        have q138_z := rd_of (a := 30) (by decide) rfl q137_z
        obtain ⟨v139_z, rfl, lv139_z, uv139_z⟩ := sd_30 (by decide) q137_z
        have D140 : h136_z 44 6 = .ref 2 := q138_z.2.trans (show (am_up h130_z (19 + (rg_v h 2 2).toNatClampNeg) 1 (.int v133_z)) 44 6 = .ref 2 from ((up_ne (by omega)).trans (D134)))
        replace hc_z : rn _ _ _ _ [.int v139_z, .ref (19 + (rg_v h 2 2).toNatClampNeg)] _ _ _ := hc_z
        replace hc_z := rn_put (am_cur_of (i := (91, 3, .putfield 178, (3, 2, 208), 0)) (by decide +kernel)) (by decide +kernel) hc_z
        replace hc_z := rn_aload_n (am_cur_of (i := (94, 1, .aload_n 1, (0, 0, 0), 0)) (by decide +kernel)) g1_z hc_z
        replace hc_z := rn_aload_n (am_cur_of (i := (95, 1, .aload_n 0, (0, 0, 0), 0)) (by decide +kernel)) g0_z hc_z
        replace hc_z := rn_iconst (w := 1) (am_cur_of (i := (96, 1, .iconst 1, (0, 0, 0), 0)) (by decide +kernel)) (by decide) hc_z
        replace hc_z := rn_bipush (w := 20) (am_cur_of (i := (97, 2, .bipush 20, (0, 0, 0), 0)) (by decide +kernel)) (by decide) hc_z
        replace hc_z := rn_callV (M' := am_m30) (o := 44) (ar := [.int 20, .int 1]) (rest := [.ref (19 + (rg_v h 2 2).toNatClampNeg)]) (L := lv_args 0 [.ref 44, .int 1, .int 20]) (am_cur_of (i := (99, 3, .invokevirtual 142, (30, 773, 3), 0)) (by decide +kernel)) rfl rfl rfl rfl hc_z
        obtain ⟨r141_z, h142_z, q143_z, hc_z⟩ := hc_z
        have q144_z := rd_of (a := 30) (by decide) rfl q143_z
        obtain ⟨v145_z, rfl, lv145_z, uv145_z⟩ := sd_30 (by decide) q143_z
        have D146 : h142_z 44 6 = .ref 2 := q144_z.2.trans (show (am_up h136_z (19 + (rg_v h 2 2).toNatClampNeg) 2 (.int v139_z)) 44 6 = .ref 2 from ((up_ne (by omega)).trans (D140)))
        replace hc_z : rn _ _ _ _ [.int v145_z, .ref (19 + (rg_v h 2 2).toNatClampNeg)] _ _ _ := hc_z
        replace hc_z := rn_put (am_cur_of (i := (102, 3, .putfield 181, (3, 3, 211), 0)) (by decide +kernel)) (by decide +kernel) hc_z
        replace hc_z := rn_aload_n (am_cur_of (i := (105, 1, .aload_n 1, (0, 0, 0), 0)) (by decide +kernel)) g1_z hc_z
        replace hc_z := rn_aload_n (am_cur_of (i := (106, 1, .aload_n 0, (0, 0, 0), 0)) (by decide +kernel)) g0_z hc_z
        replace hc_z := rn_iconst (w := 1) (am_cur_of (i := (107, 1, .iconst 1, (0, 0, 0), 0)) (by decide +kernel)) (by decide) hc_z
        replace hc_z := rn_bipush (w := 9) (am_cur_of (i := (108, 2, .bipush 9, (0, 0, 0), 0)) (by decide +kernel)) (by decide) hc_z
        replace hc_z := rn_callV (M' := am_m30) (o := 44) (ar := [.int 9, .int 1]) (rest := [.ref (19 + (rg_v h 2 2).toNatClampNeg)]) (L := lv_args 0 [.ref 44, .int 1, .int 9]) (am_cur_of (i := (110, 3, .invokevirtual 142, (30, 773, 3), 0)) (by decide +kernel)) rfl rfl rfl rfl hc_z
        obtain ⟨r147_z, h148_z, q149_z, hc_z⟩ := hc_z
        have q150_z := rd_of (a := 30) (by decide) rfl q149_z
        obtain ⟨v151_z, rfl, lv151_z, uv151_z⟩ := sd_30 (by decide) q149_z
        have D152 : h148_z 44 6 = .ref 2 := q150_z.2.trans (show (am_up h142_z (19 + (rg_v h 2 2).toNatClampNeg) 3 (.int v145_z)) 44 6 = .ref 2 from ((up_ne (by omega)).trans (D146)))
        replace hc_z : rn _ _ _ _ [.int v151_z, .ref (19 + (rg_v h 2 2).toNatClampNeg)] _ _ _ := hc_z
        replace hc_z := rn_put (am_cur_of (i := (113, 3, .putfield 184, (3, 4, 216), 0)) (by decide +kernel)) (by decide +kernel) hc_z
        replace hc_z := rn_aload_n (am_cur_of (i := (116, 1, .aload_n 1, (0, 0, 0), 0)) (by decide +kernel)) g1_z hc_z
        replace hc_z := rn_aload_n (am_cur_of (i := (117, 1, .aload_n 0, (0, 0, 0), 0)) (by decide +kernel)) g0_z hc_z
        replace hc_z := rn_iconst (w := 0) (am_cur_of (i := (118, 1, .iconst 0, (0, 0, 0), 0)) (by decide +kernel)) (by decide) hc_z
        replace hc_z := rn_bipush (w := 99) (am_cur_of (i := (119, 2, .bipush 99, (0, 0, 0), 0)) (by decide +kernel)) (by decide) hc_z
        replace hc_z := rn_callV (M' := am_m30) (o := 44) (ar := [.int 99, .int 0]) (rest := [.ref (19 + (rg_v h 2 2).toNatClampNeg)]) (L := lv_args 0 [.ref 44, .int 0, .int 99]) (am_cur_of (i := (121, 3, .invokevirtual 142, (30, 773, 3), 0)) (by decide +kernel)) rfl rfl rfl rfl hc_z
        obtain ⟨r153_z, h154_z, q155_z, hc_z⟩ := hc_z
        have q156_z := rd_of (a := 30) (by decide) rfl q155_z
        obtain ⟨v157_z, rfl, lv157_z, uv157_z⟩ := sd_30 (by decide) q155_z
        have D158 : h154_z 44 6 = .ref 2 := q156_z.2.trans (show (am_up h148_z (19 + (rg_v h 2 2).toNatClampNeg) 4 (.int v151_z)) 44 6 = .ref 2 from ((up_ne (by omega)).trans (D152)))
        replace hc_z : rn _ _ _ _ [.int v157_z, .ref (19 + (rg_v h 2 2).toNatClampNeg)] _ _ _ := hc_z
        replace hc_z := rn_put (am_cur_of (i := (124, 3, .putfield 187, (3, 5, 218), 0)) (by decide +kernel)) (by decide +kernel) hc_z
        replace hc_z := rn_aload_n (am_cur_of (i := (127, 1, .aload_n 1, (0, 0, 0), 0)) (by decide +kernel)) g1_z hc_z
        replace hc_z := rn_aload_n (am_cur_of (i := (128, 1, .aload_n 0, (0, 0, 0), 0)) (by decide +kernel)) g0_z hc_z
        replace hc_z := rn_iconst (w := 0) (am_cur_of (i := (129, 1, .iconst 0, (0, 0, 0), 0)) (by decide +kernel)) (by decide) hc_z
        replace hc_z := rn_bipush (w := 9) (am_cur_of (i := (130, 2, .bipush 9, (0, 0, 0), 0)) (by decide +kernel)) (by decide) hc_z
        replace hc_z := rn_callV (M' := am_m30) (o := 44) (ar := [.int 9, .int 0]) (rest := [.ref (19 + (rg_v h 2 2).toNatClampNeg)]) (L := lv_args 0 [.ref 44, .int 0, .int 9]) (am_cur_of (i := (132, 3, .invokevirtual 142, (30, 773, 3), 0)) (by decide +kernel)) rfl rfl rfl rfl hc_z
        obtain ⟨r159_z, h160_z, q161_z, hc_z⟩ := hc_z
        have q162_z := rd_of (a := 30) (by decide) rfl q161_z
        obtain ⟨v163_z, rfl, lv163_z, uv163_z⟩ := sd_30 (by decide) q161_z
        have D164 : h160_z 44 6 = .ref 2 := q162_z.2.trans (show (am_up h154_z (19 + (rg_v h 2 2).toNatClampNeg) 5 (.int v157_z)) 44 6 = .ref 2 from ((up_ne (by omega)).trans (D158)))
        replace hc_z : rn _ _ _ _ [.int v163_z, .ref (19 + (rg_v h 2 2).toNatClampNeg)] _ _ _ := hc_z
        replace hc_z := rn_put (am_cur_of (i := (135, 3, .putfield 190, (3, 6, 220), 0)) (by decide +kernel)) (by decide +kernel) hc_z
        replace hc_z := rn_aload_n (am_cur_of (i := (138, 1, .aload_n 1, (0, 0, 0), 0)) (by decide +kernel)) g1_z hc_z
        replace hc_z := rn_aload_n (am_cur_of (i := (139, 1, .aload_n 0, (0, 0, 0), 0)) (by decide +kernel)) g0_z hc_z
        replace hc_z := rn_iconst (w := 0) (am_cur_of (i := (140, 1, .iconst 0, (0, 0, 0), 0)) (by decide +kernel)) (by decide) hc_z
        replace hc_z := rn_bipush (w := 99) (am_cur_of (i := (141, 2, .bipush 99, (0, 0, 0), 0)) (by decide +kernel)) (by decide) hc_z
        replace hc_z := rn_callV (M' := am_m30) (o := 44) (ar := [.int 99, .int 0]) (rest := [.ref (19 + (rg_v h 2 2).toNatClampNeg)]) (L := lv_args 0 [.ref 44, .int 0, .int 99]) (am_cur_of (i := (143, 3, .invokevirtual 142, (30, 773, 3), 0)) (by decide +kernel)) rfl rfl rfl rfl hc_z
        obtain ⟨r165_z, h166_z, q167_z, hc_z⟩ := hc_z
        have q168_z := rd_of (a := 30) (by decide) rfl q167_z
        obtain ⟨v169_z, rfl, lv169_z, uv169_z⟩ := sd_30 (by decide) q167_z
        have D170 : h166_z 44 6 = .ref 2 := q168_z.2.trans (show (am_up h160_z (19 + (rg_v h 2 2).toNatClampNeg) 6 (.int v163_z)) 44 6 = .ref 2 from ((up_ne (by omega)).trans (D164)))
        replace hc_z : rn _ _ _ _ [.int v169_z, .ref (19 + (rg_v h 2 2).toNatClampNeg)] _ _ _ := hc_z
        replace hc_z := rn_put (am_cur_of (i := (146, 3, .putfield 193, (3, 7, 221), 0)) (by decide +kernel)) (by decide +kernel) hc_z
        replace hc_z := rn_aload_n (am_cur_of (i := (149, 1, .aload_n 0, (0, 0, 0), 0)) (by decide +kernel)) g0_z hc_z
        replace hc_z := rn_getM (x := 2) (am_cur_of (i := (150, 3, .getfield 25, (4, 6, 415), 0)) (by decide +kernel)) (show (am_up h166_z (19 + (rg_v h 2 2).toNatClampNeg) 7 (.int v169_z)) 44 6 = .ref 2 from ((up_ne (by omega)).trans (D170))) hc_z
        replace hc_z := rn_dup (am_cur_of (i := (153, 1, .dup, (0, 0, 0), 0)) (by decide +kernel)) hc_z
        replace hc_z := rn_getI (v := rg_v h 2 2) (am_cur_of (i := (154, 3, .getfield 151, (1, 2, 259), 0)) (by decide +kernel)) (by decide +kernel) ((rg_v_other (by omega)).trans ((rd_v q168_z (by omega)).trans ((rg_v_other (by omega)).trans ((rd_v q162_z (by omega)).trans ((rg_v_other (by omega)).trans ((rd_v q156_z (by omega)).trans ((rg_v_other (by omega)).trans ((rd_v q150_z (by omega)).trans ((rg_v_other (by omega)).trans ((rd_v q144_z (by omega)).trans ((rg_v_other (by omega)).trans ((rd_v q138_z (by omega)).trans ((rg_v_other (by omega)).trans ((rd_v q132_z (by omega)).trans ((rd_v q127_z (by omega)).trans ((rg_v_other (by omega)).trans ((rd_v q117_z (by omega)).trans ((rd_v q110_z (by omega)).trans ((rd_v q101_z (by omega)).trans (rfl)))))))))))))))))))) hc_z
        replace hc_z := rn_iconst (w := 1) (am_cur_of (i := (157, 1, .iconst 1, (0, 0, 0), 0)) (by decide +kernel)) (by decide) hc_z
        replace hc_z := rn_iadd (w := (rg_v h 2 2) + 1) (am_cur_of (i := (158, 1, .iadd, (0, 0, 0), 0)) (by decide +kernel)) rfl hc_z
        replace hc_z := rn_put (am_cur_of (i := (159, 3, .putfield 151, (1, 2, 259), 0)) (by decide +kernel)) (by decide +kernel) hc_z
        replace hc_z := rn_vret (am_cur_of (i := (162, 1, .return_, (0, 0, 0), 0)) (by decide +kernel)) hc_z
        obtain ⟨e171_z, e172_z⟩ := hc_z
        replace e172_z := e172_z.symm
        subst e172_z
        refine ⟨?_, ((up_ne (by omega)).trans ((up_ne (by omega)).trans (D170)))⟩
        have ek : rg_v (am_up (am_up h166_z (19 + (rg_v h 2 2).toNatClampNeg) 7 (.int v169_z)) 2 2 (.int ((rg_v h 2 2) + 1))) 2 2 = (rg_v h 2 2) + 1 := rg_v_self
        have gk : ((rg_v h 2 2) + 1).toInt = (rg_v h 2 2).toInt + 1 := ab_iadd (by rw [z1_z]; omega) (by rw [z1_z]; omega)
        have k4_z : rg_v (am_up (am_up h166_z (19 + (rg_v h 2 2).toNatClampNeg) 7 (.int v169_z)) 2 2 (.int ((rg_v h 2 2) + 1))) 2 4 = rg_v h 2 4 := ((rg_v_other (by omega)).trans ((rg_v_other (by omega)).trans ((rd_v q168_z (by omega)).trans ((rg_v_other (by omega)).trans ((rd_v q162_z (by omega)).trans ((rg_v_other (by omega)).trans ((rd_v q156_z (by omega)).trans ((rg_v_other (by omega)).trans ((rd_v q150_z (by omega)).trans ((rg_v_other (by omega)).trans ((rd_v q144_z (by omega)).trans ((rg_v_other (by omega)).trans ((rd_v q138_z (by omega)).trans ((rg_v_other (by omega)).trans ((rd_v q132_z (by omega)).trans ((rd_v q127_z (by omega)).trans ((rg_v_other (by omega)).trans ((rd_v q117_z (by omega)).trans ((rd_v q110_z (by omega)).trans ((rd_v q101_z (by omega)).trans (rfl)))))))))))))))))))))
        have k9_z : rg_v (am_up (am_up h166_z (19 + (rg_v h 2 2).toNatClampNeg) 7 (.int v169_z)) 2 2 (.int ((rg_v h 2 2) + 1))) 2 9 = rg_v h 2 9 := ((rg_v_other (by omega)).trans ((rg_v_other (by omega)).trans ((rd_v q168_z (by omega)).trans ((rg_v_other (by omega)).trans ((rd_v q162_z (by omega)).trans ((rg_v_other (by omega)).trans ((rd_v q156_z (by omega)).trans ((rg_v_other (by omega)).trans ((rd_v q150_z (by omega)).trans ((rg_v_other (by omega)).trans ((rd_v q144_z (by omega)).trans ((rg_v_other (by omega)).trans ((rd_v q138_z (by omega)).trans ((rg_v_other (by omega)).trans ((rd_v q132_z (by omega)).trans ((rd_v q127_z (by omega)).trans ((rg_v_other (by omega)).trans ((rd_v q117_z (by omega)).trans ((rd_v q110_z (by omega)).trans ((rd_v q101_z (by omega)).trans (rfl)))))))))))))))))))))
        have k12_z : rg_v (am_up (am_up h166_z (19 + (rg_v h 2 2).toNatClampNeg) 7 (.int v169_z)) 2 2 (.int ((rg_v h 2 2) + 1))) 2 12 = rg_v h 2 12 := ((rg_v_other (by omega)).trans ((rg_v_other (by omega)).trans ((rd_v q168_z (by omega)).trans ((rg_v_other (by omega)).trans ((rd_v q162_z (by omega)).trans ((rg_v_other (by omega)).trans ((rd_v q156_z (by omega)).trans ((rg_v_other (by omega)).trans ((rd_v q150_z (by omega)).trans ((rg_v_other (by omega)).trans ((rd_v q144_z (by omega)).trans ((rg_v_other (by omega)).trans ((rd_v q138_z (by omega)).trans ((rg_v_other (by omega)).trans ((rd_v q132_z (by omega)).trans ((rd_v q127_z (by omega)).trans ((rg_v_other (by omega)).trans ((rd_v q117_z (by omega)).trans ((rd_v q110_z (by omega)).trans ((rd_v q101_z (by omega)).trans (rfl)))))))))))))))))))))
        have f1_z : rg_v (am_up (am_up h166_z (19 + (rg_v h 2 2).toNatClampNeg) 7 (.int v169_z)) 2 2 (.int ((rg_v h 2 2) + 1))) (19 + (rg_v h 2 2).toNatClampNeg) 1 = v133_z := ((rg_v_other (by omega)).trans ((rg_v_other (by omega)).trans ((rd_v q168_z (by omega)).trans ((rg_v_other (by omega)).trans ((rd_v q162_z (by omega)).trans ((rg_v_other (by omega)).trans ((rd_v q156_z (by omega)).trans ((rg_v_other (by omega)).trans ((rd_v q150_z (by omega)).trans ((rg_v_other (by omega)).trans ((rd_v q144_z (by omega)).trans ((rg_v_other (by omega)).trans ((rd_v q138_z (by omega)).trans (rg_v_self))))))))))))))
        have f3_z : rg_v (am_up (am_up h166_z (19 + (rg_v h 2 2).toNatClampNeg) 7 (.int v169_z)) 2 2 (.int ((rg_v h 2 2) + 1))) (19 + (rg_v h 2 2).toNatClampNeg) 3 = v145_z := ((rg_v_other (by omega)).trans ((rg_v_other (by omega)).trans ((rd_v q168_z (by omega)).trans ((rg_v_other (by omega)).trans ((rd_v q162_z (by omega)).trans ((rg_v_other (by omega)).trans ((rd_v q156_z (by omega)).trans ((rg_v_other (by omega)).trans ((rd_v q150_z (by omega)).trans (rg_v_self))))))))))
        have f4_z : rg_v (am_up (am_up h166_z (19 + (rg_v h 2 2).toNatClampNeg) 7 (.int v169_z)) 2 2 (.int ((rg_v h 2 2) + 1))) (19 + (rg_v h 2 2).toNatClampNeg) 4 = v151_z := ((rg_v_other (by omega)).trans ((rg_v_other (by omega)).trans ((rd_v q168_z (by omega)).trans ((rg_v_other (by omega)).trans ((rd_v q162_z (by omega)).trans ((rg_v_other (by omega)).trans ((rd_v q156_z (by omega)).trans (rg_v_self))))))))
        have w2_z : pv2_z 2 (am_up (am_up h166_z (19 + (rg_v h 2 2).toNatClampNeg) 7 (.int v169_z)) 2 2 (.int ((rg_v h 2 2) + 1))) := by
          intro b hb_z
          rw [ek, gk] at hb_z
          by_cases e : b = (rg_v h 2 2).toNatClampNeg
          · have eb : 2 + 17 + b = 19 + (rg_v h 2 2).toNatClampNeg := by omega
            rw [eb, f1_z, f3_z, f4_z]
            omega
          · have eA : ∀ k, rg_v (am_up (am_up h166_z (19 + (rg_v h 2 2).toNatClampNeg) 7 (.int v169_z)) 2 2 (.int ((rg_v h 2 2) + 1))) (2 + 17 + b) k = rg_v h (2 + 17 + b) k := fun k => ((rg_v_other (by omega)).trans ((rg_v_other (by omega)).trans ((rd_v q168_z (by omega)).trans ((rg_v_other (by omega)).trans ((rd_v q162_z (by omega)).trans ((rg_v_other (by omega)).trans ((rd_v q156_z (by omega)).trans ((rg_v_other (by omega)).trans ((rd_v q150_z (by omega)).trans ((rg_v_other (by omega)).trans ((rd_v q144_z (by omega)).trans ((rg_v_other (by omega)).trans ((rd_v q138_z (by omega)).trans ((rg_v_other (by omega)).trans ((rd_v q132_z (by omega)).trans ((rd_v q127_z (by omega)).trans ((rg_v_other (by omega)).trans ((rd_v q117_z (by omega)).trans ((rd_v q110_z (by omega)).trans ((rd_v q101_z (by omega)).trans (rfl)))))))))))))))))))))
            rw [eA 1, eA 3, eA 4]
            exact v2_z b (by omega)
        have w3_z : pv3_z 2 (am_up (am_up h166_z (19 + (rg_v h 2 2).toNatClampNeg) 7 (.int v169_z)) 2 2 (.int ((rg_v h 2 2) + 1))) := by
          intro t ht
          rw [k4_z] at ht
          have eA : ∀ o k, (2 + 2 ≤ o ∧ o ≤ 2 + 3) → rg_v (am_up (am_up h166_z (19 + (rg_v h 2 2).toNatClampNeg) 7 (.int v169_z)) 2 2 (.int ((rg_v h 2 2) + 1))) o k = rg_v h o k := fun o k q => ((rg_v_other (by omega)).trans ((rg_v_other (by omega)).trans ((rd_v q168_z (by omega)).trans ((rg_v_other (by omega)).trans ((rd_v q162_z (by omega)).trans ((rg_v_other (by omega)).trans ((rd_v q156_z (by omega)).trans ((rg_v_other (by omega)).trans ((rd_v q150_z (by omega)).trans ((rg_v_other (by omega)).trans ((rd_v q144_z (by omega)).trans ((rg_v_other (by omega)).trans ((rd_v q138_z (by omega)).trans ((rg_v_other (by omega)).trans ((rd_v q132_z (by omega)).trans ((rd_v q127_z (by omega)).trans ((rg_v_other (by omega)).trans ((rd_v q117_z (by omega)).trans ((rd_v q110_z (by omega)).trans ((rd_v q101_z (by omega)).trans (rfl)))))))))))))))))))))
          have q := v3_z t ht
          rw [ek, gk, eA (2 + 2) t (by omega), eA (2 + 3) t (by omega)]
          omega
        exact ⟨pv1_e (fun o k q => ((rg_v_other (by omega)).trans ((rg_v_other (by omega)).trans ((rd_v q168_z (by omega)).trans ((rg_v_other (by omega)).trans ((rd_v q162_z (by omega)).trans ((rg_v_other (by omega)).trans ((rd_v q156_z (by omega)).trans ((rg_v_other (by omega)).trans ((rd_v q150_z (by omega)).trans ((rg_v_other (by omega)).trans ((rd_v q144_z (by omega)).trans ((rg_v_other (by omega)).trans ((rd_v q138_z (by omega)).trans ((rg_v_other (by omega)).trans ((rd_v q132_z (by omega)).trans ((rd_v q127_z (by omega)).trans ((rg_v_other (by omega)).trans ((rd_v q117_z (by omega)).trans ((rd_v q110_z (by omega)).trans ((rd_v q101_z (by omega)).trans (rfl)))))))))))))))))))))) v1_z, w2_z, w3_z, pv4_e (fun o k q => ((rg_v_other (by omega)).trans ((rg_v_other (by omega)).trans ((rd_v q168_z (by omega)).trans ((rg_v_other (by omega)).trans ((rd_v q162_z (by omega)).trans ((rg_v_other (by omega)).trans ((rd_v q156_z (by omega)).trans ((rg_v_other (by omega)).trans ((rd_v q150_z (by omega)).trans ((rg_v_other (by omega)).trans ((rd_v q144_z (by omega)).trans ((rg_v_other (by omega)).trans ((rd_v q138_z (by omega)).trans ((rg_v_other (by omega)).trans ((rd_v q132_z (by omega)).trans ((rd_v q127_z (by omega)).trans ((rg_v_other (by omega)).trans ((rd_v q117_z (by omega)).trans ((rd_v q110_z (by omega)).trans ((rd_v q101_z (by omega)).trans (rfl)))))))))))))))))))))) v4_z, pv5_e (fun o k q => ((rg_v_other (by omega)).trans ((rg_v_other (by omega)).trans ((rd_v q168_z (by omega)).trans ((rg_v_other (by omega)).trans ((rd_v q162_z (by omega)).trans ((rg_v_other (by omega)).trans ((rd_v q156_z (by omega)).trans ((rg_v_other (by omega)).trans ((rd_v q150_z (by omega)).trans ((rg_v_other (by omega)).trans ((rd_v q144_z (by omega)).trans ((rg_v_other (by omega)).trans ((rd_v q138_z (by omega)).trans ((rg_v_other (by omega)).trans ((rd_v q132_z (by omega)).trans ((rd_v q127_z (by omega)).trans ((rg_v_other (by omega)).trans ((rd_v q117_z (by omega)).trans ((rd_v q110_z (by omega)).trans ((rd_v q101_z (by omega)).trans (rfl)))))))))))))))))))))) v5_z, pv6_e (fun o k q => ((rg_v_other (by omega)).trans ((rg_v_other (by omega)).trans ((rd_v q168_z (by omega)).trans ((rg_v_other (by omega)).trans ((rd_v q162_z (by omega)).trans ((rg_v_other (by omega)).trans ((rd_v q156_z (by omega)).trans ((rg_v_other (by omega)).trans ((rd_v q150_z (by omega)).trans ((rg_v_other (by omega)).trans ((rd_v q144_z (by omega)).trans ((rg_v_other (by omega)).trans ((rd_v q138_z (by omega)).trans ((rg_v_other (by omega)).trans ((rd_v q132_z (by omega)).trans ((rd_v q127_z (by omega)).trans ((rg_v_other (by omega)).trans ((rd_v q117_z (by omega)).trans ((rd_v q110_z (by omega)).trans ((rd_v q101_z (by omega)).trans (rfl)))))))))))))))))))))) v6_z, (by unfold pv7_z; rw [ek, k4_z, k9_z, k12_z]; omega)⟩
      · replace b120_z : ¬ v118_z = ((-1) : Int32) ∧ ¬ v118_z.toInt = ((-1) : Int32).toInt := b120_z
        replace hc_z := rn_aload_n (am_cur_of (i := (38, 1, .aload_n 0, (0, 0, 0), 0)) (by decide +kernel)) g0_z hc_z
        replace hc_z := rn_iconst (w := 3) (am_cur_of (i := (39, 1, .iconst 3, (0, 0, 0), 0)) (by decide +kernel)) (by decide) hc_z
        replace hc_z := rn_callV (M' := am_m29) (o := 44) (ar := [.int 3]) (rest := []) (L := lv_args 0 [.ref 44, .int 3]) (am_cur_of (i := (40, 3, .invokevirtual 108, (29, 769, 3), 0)) (by decide +kernel)) rfl rfl rfl rfl hc_z
        obtain ⟨r173_z, h174_z, q175_z, hc_z⟩ := hc_z
        have q176_z := rd_of (a := 29) (by decide) rfl q175_z
        have vo := rn_void rfl q175_z
        subst vo
        have D177 : h174_z 44 6 = .ref 2 := q176_z.2.trans D119
        replace hc_z : rn _ _ _ _ [] _ _ _ := hc_z
        replace hc_z := rn_vret (am_cur_of (i := (43, 1, .return_, (0, 0, 0), 0)) (by decide +kernel)) hc_z
        obtain ⟨e178_z, e179_z⟩ := hc_z
        replace e179_z := e179_z.symm
        subst e179_z
        refine ⟨?_, D177⟩
        exact ⟨pv1_e (fun o k q => ((rd_v q176_z (by omega)).trans ((rd_v q117_z (by omega)).trans ((rd_v q110_z (by omega)).trans ((rd_v q101_z (by omega)).trans (rfl)))))) v1_z, pv2_e VV.2.2.2.2.2.2 (fun o k q => ((rd_v q176_z (by omega)).trans ((rd_v q117_z (by omega)).trans ((rd_v q110_z (by omega)).trans ((rd_v q101_z (by omega)).trans (rfl)))))) v2_z, pv3_e (fun o k q => ((rd_v q176_z (by omega)).trans ((rd_v q117_z (by omega)).trans ((rd_v q110_z (by omega)).trans ((rd_v q101_z (by omega)).trans (rfl)))))) v3_z, pv4_e (fun o k q => ((rd_v q176_z (by omega)).trans ((rd_v q117_z (by omega)).trans ((rd_v q110_z (by omega)).trans ((rd_v q101_z (by omega)).trans (rfl)))))) v4_z, pv5_e (fun o k q => ((rd_v q176_z (by omega)).trans ((rd_v q117_z (by omega)).trans ((rd_v q110_z (by omega)).trans ((rd_v q101_z (by omega)).trans (rfl)))))) v5_z, pv6_e (fun o k q => ((rd_v q176_z (by omega)).trans ((rd_v q117_z (by omega)).trans ((rd_v q110_z (by omega)).trans ((rd_v q101_z (by omega)).trans (rfl)))))) v6_z, pv7_e (fun o k q => ((rd_v q176_z (by omega)).trans ((rd_v q117_z (by omega)).trans ((rd_v q110_z (by omega)).trans ((rd_v q101_z (by omega)).trans (rfl)))))) VV.2.2.2.2.2.2⟩
    · replace b113_z : v111_z = (0 : Int32) ∧ v111_z.toInt = (0 : Int32).toInt := b113_z
      replace hc_z := rn_vret (am_cur_of (i := (22, 1, .return_, (0, 0, 0), 0)) (by decide +kernel)) hc_z
      obtain ⟨e180_z, e181_z⟩ := hc_z
      replace e181_z := e181_z.symm
      subst e181_z
      refine ⟨?_, D112⟩
      exact ⟨pv1_e (fun o k q => ((rd_v q110_z (by omega)).trans ((rd_v q101_z (by omega)).trans (rfl)))) v1_z, pv2_e VV.2.2.2.2.2.2 (fun o k q => ((rd_v q110_z (by omega)).trans ((rd_v q101_z (by omega)).trans (rfl)))) v2_z, pv3_e (fun o k q => ((rd_v q110_z (by omega)).trans ((rd_v q101_z (by omega)).trans (rfl)))) v3_z, pv4_e (fun o k q => ((rd_v q110_z (by omega)).trans ((rd_v q101_z (by omega)).trans (rfl)))) v4_z, pv5_e (fun o k q => ((rd_v q110_z (by omega)).trans ((rd_v q101_z (by omega)).trans (rfl)))) v5_z, pv6_e (fun o k q => ((rd_v q110_z (by omega)).trans ((rd_v q101_z (by omega)).trans (rfl)))) v6_z, pv7_e (fun o k q => ((rd_v q110_z (by omega)).trans ((rd_v q101_z (by omega)).trans (rfl)))) VV.2.2.2.2.2.2⟩
theorem sd_35_2 {n : Nat} {r : Option Value} {h h' : am_H} (D : h 44 6 = .ref 2) (V : pv 2 h) (hc_z : rn n am_m35 0 (lv_args 0 [.ref 44]) [] h r h') : pv 2 h' ∧ h' 44 6 = .ref 2 := by
  have zm1_z : ((-1) : Int32).toInt = (-1) := by decide
  have z0_z : (0 : Int32).toInt = 0 := by decide
  have z1_z : (1 : Int32).toInt = 1 := by decide
  have z20_z : (20 : Int32).toInt = 20 := by decide
  have g0_z : am_get (lv_args 0 [.ref 44]) 0 = some (.ref 44) := rfl
  have VV := V
  obtain ⟨v1_z, v2_z, v3_z, v4_z, v5_z, v6_z, ⟨n0_z, n4_z⟩, ⟨t0_z, t8_z⟩, ⟨l0_z, l6_z⟩, ⟨r0_z, r3_z⟩⟩ := V
  replace hc_z := rn_aload_n (am_cur_of (i := (0, 1, .aload_n 0, (0, 0, 0), 0)) (by decide +kernel)) g0_z hc_z
  replace hc_z := rn_aload_n (am_cur_of (i := (1, 1, .aload_n 0, (0, 0, 0), 0)) (by decide +kernel)) g0_z hc_z
  replace hc_z := rn_getM (x := 2) (am_cur_of (i := (2, 3, .getfield 25, (4, 6, 415), 0)) (by decide +kernel)) D hc_z
  replace hc_z := rn_getI (v := rg_v h 2 4) (am_cur_of (i := (5, 3, .getfield 196, (1, 4, 269), 0)) (by decide +kernel)) (by decide +kernel) rfl hc_z
  replace hc_z := rn_bipush (w := 8) (am_cur_of (i := (8, 2, .bipush 8, (0, 0, 0), 0)) (by decide +kernel)) (by decide) hc_z
  replace hc_z := rn_callV (M' := am_m32) (o := 44) (ar := [.int 8, .int (rg_v h 2 4)]) (rest := []) (L := lv_args 0 [.ref 44, .int (rg_v h 2 4), .int 8]) (am_cur_of (i := (10, 3, .invokevirtual 154, (32, 781, 3), 0)) (by decide +kernel)) rfl rfl rfl rfl hc_z
  obtain ⟨r182_z, h183_z, q184_z, hc_z⟩ := hc_z
  have q185_z := rd_of (a := 32) (by decide) rfl q184_z
  obtain ⟨v186_z, rfl⟩ := rn_ret (M := am_m32) rfl (by decide) q184_z
  have D187 : h183_z 44 6 = .ref 2 := q185_z.2.trans D
  replace hc_z : rn _ _ _ _ [.int v186_z] _ _ _ := hc_z
  replace hc_z := rn_if (am_cur_of (i := (13, 3, .ifCond .eq 10, (10, 0, 0), 0)) (by decide +kernel)) hc_z
  rcases hc_z with ⟨b188_z, hc_z⟩ | ⟨b188_z, hc_z⟩
  · replace b188_z : v186_z = (0 : Int32) ∧ v186_z.toInt = (0 : Int32).toInt := b188_z
    replace hc_z := rn_vret (am_cur_of (i := (23, 1, .return_, (0, 0, 0), 0)) (by decide +kernel)) hc_z
    obtain ⟨e189_z, e190_z⟩ := hc_z
    replace e190_z := e190_z.symm
    subst e190_z
    refine ⟨?_, D187⟩
    exact ⟨pv1_e (fun o k q => ((rd_v q185_z (by omega)).trans (rfl))) v1_z, pv2_e VV.2.2.2.2.2.2 (fun o k q => ((rd_v q185_z (by omega)).trans (rfl))) v2_z, pv3_e (fun o k q => ((rd_v q185_z (by omega)).trans (rfl))) v3_z, pv4_e (fun o k q => ((rd_v q185_z (by omega)).trans (rfl))) v4_z, pv5_e (fun o k q => ((rd_v q185_z (by omega)).trans (rfl))) v5_z, pv6_e (fun o k q => ((rd_v q185_z (by omega)).trans (rfl))) v6_z, pv7_e (fun o k q => ((rd_v q185_z (by omega)).trans (rfl))) VV.2.2.2.2.2.2⟩
  · replace b188_z : ¬ v186_z = (0 : Int32) ∧ ¬ v186_z.toInt = (0 : Int32).toInt := b188_z
    replace hc_z := rn_aload_n (am_cur_of (i := (16, 1, .aload_n 0, (0, 0, 0), 0)) (by decide +kernel)) g0_z hc_z
    replace hc_z := rn_callV (M' := am_m33) (o := 44) (ar := []) (rest := []) (L := lv_args 0 [.ref 44]) (am_cur_of (i := (17, 3, .invokevirtual 158, (33, 785, 3), 0)) (by decide +kernel)) rfl rfl rfl rfl hc_z
    obtain ⟨r191_z, h192_z, q193_z, hc_z⟩ := hc_z
    have q194_z := rd_of (a := 33) (by decide) rfl q193_z
    obtain ⟨v195_z, rfl⟩ := rn_ret (M := am_m33) rfl (by decide) q193_z
    have D196 : h192_z 44 6 = .ref 2 := q194_z.2.trans D187
    replace hc_z : rn _ _ _ _ [.int v195_z] _ _ _ := hc_z
    replace hc_z := rn_if (am_cur_of (i := (20, 3, .ifCond .ne 4, (11, 0, 0), 0)) (by decide +kernel)) hc_z
    rcases hc_z with ⟨b197_z, hc_z⟩ | ⟨b197_z, hc_z⟩
    · replace b197_z : ¬ v195_z = (0 : Int32) ∧ ¬ v195_z.toInt = (0 : Int32).toInt := b197_z
      replace hc_z := rn_aload_n (am_cur_of (i := (24, 1, .aload_n 0, (0, 0, 0), 0)) (by decide +kernel)) g0_z hc_z
      replace hc_z := rn_getM (x := 2) (am_cur_of (i := (25, 3, .getfield 25, (4, 6, 415), 0)) (by decide +kernel)) D196 hc_z
      replace hc_z := rn_aload_n (am_cur_of (i := (28, 1, .aload_n 0, (0, 0, 0), 0)) (by decide +kernel)) g0_z hc_z
      replace hc_z := rn_getI (v := rg_v h192_z 44 11) (am_cur_of (i := (29, 3, .getfield 91, (4, 11, 420), 0)) (by decide +kernel)) (by decide +kernel) rfl hc_z
      replace hc_z := rn_callV (M' := am_m34) (o := 2) (ar := [.int (rg_v h192_z 44 11)]) (rest := []) (L := lv_args 0 [.ref 2, .int (rg_v h192_z 44 11)]) (am_cur_of (i := (32, 3, .invokevirtual 162, (34, 789, 3), 0)) (by decide +kernel)) rfl rfl rfl rfl hc_z
      obtain ⟨r198_z, h199_z, q200_z, hc_z⟩ := hc_z
      obtain ⟨yy, i2_z, rfl, hi2_z⟩ := rp_bn2 (nb := rg_v h 2 2) (((rd_v q194_z (by omega)).trans ((rd_v q185_z (by omega)).trans (rfl)))) n4_z q200_z
      replace yy := yy.symm
      subst yy
      have ir := rp_fr hi2_z
      replace hc_z : rn _ _ _ _ [.int i2_z] _ _ _ := hc_z
      replace hc_z := rn_istore_n (am_cur_of (i := (35, 1, .istore_n 1, (0, 0, 0), 0)) (by decide +kernel)) hc_z
      obtain ⟨_, s201_z, s202_z, g1_z, hc_z⟩ := hc_z
      replace g0_z := s201_z 0 _ (by decide) rfl g0_z
      clear s201_z s202_z
      replace hc_z := rn_iload_n (am_cur_of (i := (36, 1, .iload_n 1, (0, 0, 0), 0)) (by decide +kernel)) g1_z hc_z
      replace hc_z := rn_iconst (w := (-1)) (am_cur_of (i := (37, 1, .iconst (-1), (0, 0, 0), 0)) (by decide +kernel)) (by decide) hc_z
      replace hc_z := rn_cmp (am_cur_of (i := (38, 3, .if_icmp .ne 9, (24, 0, 0), 0)) (by decide +kernel)) hc_z
      rcases hc_z with ⟨b203_z, hc_z⟩ | ⟨b203_z, hc_z⟩
      · replace b203_z : ¬ i2_z = ((-1) : Int32) ∧ ¬ i2_z.toInt = ((-1) : Int32).toInt := b203_z
        replace hc_z := rn_aload_n (am_cur_of (i := (47, 1, .aload_n 0, (0, 0, 0), 0)) (by decide +kernel)) g0_z hc_z
        replace hc_z := rn_callV (M' := am_m19) (o := 44) (ar := []) (rest := []) (L := lv_args 0 [.ref 44]) (am_cur_of (i := (48, 3, .invokevirtual 57, (19, 727, 3), 0)) (by decide +kernel)) rfl rfl rfl rfl hc_z
        obtain ⟨r204_z, h205_z, q206_z, hc_z⟩ := hc_z
        have q207_z := rd_of (a := 19) (by decide) rfl q206_z
        have vo := rn_void rfl q206_z
        subst vo
        have D208 : h205_z 44 6 = .ref 2 := q207_z.2.trans D196
        replace hc_z : rn _ _ _ _ [] _ _ _ := hc_z
        replace hc_z := rn_aload_n (am_cur_of (i := (51, 1, .aload_n 0, (0, 0, 0), 0)) (by decide +kernel)) g0_z hc_z
        replace hc_z := rn_getM (x := 2) (am_cur_of (i := (52, 3, .getfield 25, (4, 6, 415), 0)) (by decide +kernel)) D208 hc_z
        replace hc_z := rn_getR (x := 4) (am_cur_of (i := (55, 3, .getfield 199, (1, 5, 272), 0)) (by decide +kernel)) (by decide +kernel) hc_z
        replace hc_z := rn_aload_n (am_cur_of (i := (58, 1, .aload_n 0, (0, 0, 0), 0)) (by decide +kernel)) g0_z hc_z
        replace hc_z := rn_getM (x := 2) (am_cur_of (i := (59, 3, .getfield 25, (4, 6, 415), 0)) (by decide +kernel)) D208 hc_z
        replace hc_z := rn_getI (v := rg_v h 2 4) (am_cur_of (i := (62, 3, .getfield 196, (1, 4, 269), 0)) (by decide +kernel)) (by decide +kernel) ((rd_v q207_z (by omega)).trans ((rd_v q194_z (by omega)).trans ((rd_v q185_z (by omega)).trans (rfl)))) hc_z
        replace hc_z := rn_iload_n (am_cur_of (i := (65, 1, .iload_n 1, (0, 0, 0), 0)) (by decide +kernel)) g1_z hc_z
        replace hc_z := rn_iastore (N := 8) (q := (rg_v h 2 4).toNatClampNeg) (am_cur_of (i := (66, 1, .iastore, (0, 0, 0), 0)) (by decide +kernel)) (by decide +kernel) rfl hc_z
        obtain ⟨p209_z, hc_z⟩ := hc_z
        replace hc_z := rn_aload_n (am_cur_of (i := (67, 1, .aload_n 0, (0, 0, 0), 0)) (by decide +kernel)) g0_z hc_z
        replace hc_z := rn_getM (x := 2) (am_cur_of (i := (68, 3, .getfield 25, (4, 6, 415), 0)) (by decide +kernel)) (show (am_up h205_z 4 ((rg_v h 2 4).toNatClampNeg) (.int i2_z)) 44 6 = .ref 2 from D208) hc_z
        replace hc_z := rn_getR (x := 5) (am_cur_of (i := (71, 3, .getfield 202, (1, 6, 275), 0)) (by decide +kernel)) (by decide +kernel) hc_z
        replace hc_z := rn_aload_n (am_cur_of (i := (74, 1, .aload_n 0, (0, 0, 0), 0)) (by decide +kernel)) g0_z hc_z
        replace hc_z := rn_getM (x := 2) (am_cur_of (i := (75, 3, .getfield 25, (4, 6, 415), 0)) (by decide +kernel)) (show (am_up h205_z 4 ((rg_v h 2 4).toNatClampNeg) (.int i2_z)) 44 6 = .ref 2 from D208) hc_z
        replace hc_z := rn_getI (v := rg_v h 2 4) (am_cur_of (i := (78, 3, .getfield 196, (1, 4, 269), 0)) (by decide +kernel)) (by decide +kernel) ((rg_v_other (by omega)).trans ((rd_v q207_z (by omega)).trans ((rd_v q194_z (by omega)).trans ((rd_v q185_z (by omega)).trans (rfl))))) hc_z
        replace hc_z := rn_aload_n (am_cur_of (i := (81, 1, .aload_n 0, (0, 0, 0), 0)) (by decide +kernel)) g0_z hc_z
        replace hc_z := rn_iconst (w := 1) (am_cur_of (i := (82, 1, .iconst 1, (0, 0, 0), 0)) (by decide +kernel)) (by decide) hc_z
        replace hc_z := rn_bipush (w := 20) (am_cur_of (i := (83, 2, .bipush 20, (0, 0, 0), 0)) (by decide +kernel)) (by decide) hc_z
        replace hc_z := rn_callV (M' := am_m30) (o := 44) (ar := [.int 20, .int 1]) (rest := [.int (rg_v h 2 4), .ref 5]) (L := lv_args 0 [.ref 44, .int 1, .int 20]) (am_cur_of (i := (85, 3, .invokevirtual 142, (30, 773, 3), 0)) (by decide +kernel)) rfl rfl rfl rfl hc_z
        obtain ⟨r210_z, h211_z, q212_z, hc_z⟩ := hc_z
        have q213_z := rd_of (a := 30) (by decide) rfl q212_z
        obtain ⟨v214_z, rfl, lv214_z, uv214_z⟩ := sd_30 (by decide) q212_z
        have D215 : h211_z 44 6 = .ref 2 := q213_z.2.trans (show (am_up h205_z 4 ((rg_v h 2 4).toNatClampNeg) (.int i2_z)) 44 6 = .ref 2 from ((up_ne (by omega)).trans (D208)))
        replace hc_z : rn _ _ _ _ [.int v214_z, .int (rg_v h 2 4), .ref 5] _ _ _ := hc_z
        replace hc_z := rn_iastore (N := 8) (q := (rg_v h 2 4).toNatClampNeg) (am_cur_of (i := (88, 1, .iastore, (0, 0, 0), 0)) (by decide +kernel)) (by decide +kernel) rfl hc_z
        obtain ⟨p216_z, hc_z⟩ := hc_z
        replace hc_z := rn_aload_n (am_cur_of (i := (89, 1, .aload_n 0, (0, 0, 0), 0)) (by decide +kernel)) g0_z hc_z
        replace hc_z := rn_getM (x := 2) (am_cur_of (i := (90, 3, .getfield 25, (4, 6, 415), 0)) (by decide +kernel)) (show (am_up h211_z 5 ((rg_v h 2 4).toNatClampNeg) (.int v214_z)) 44 6 = .ref 2 from D215) hc_z
        replace hc_z := rn_dup (am_cur_of (i := (93, 1, .dup, (0, 0, 0), 0)) (by decide +kernel)) hc_z
        replace hc_z := rn_getI (v := rg_v h 2 4) (am_cur_of (i := (94, 3, .getfield 196, (1, 4, 269), 0)) (by decide +kernel)) (by decide +kernel) ((rg_v_other (by omega)).trans ((rd_v q213_z (by omega)).trans ((rg_v_other (by omega)).trans ((rd_v q207_z (by omega)).trans ((rd_v q194_z (by omega)).trans ((rd_v q185_z (by omega)).trans (rfl))))))) hc_z
        replace hc_z := rn_iconst (w := 1) (am_cur_of (i := (97, 1, .iconst 1, (0, 0, 0), 0)) (by decide +kernel)) (by decide) hc_z
        replace hc_z := rn_iadd (w := (rg_v h 2 4) + 1) (am_cur_of (i := (98, 1, .iadd, (0, 0, 0), 0)) (by decide +kernel)) rfl hc_z
        replace hc_z := rn_put (am_cur_of (i := (99, 3, .putfield 196, (1, 4, 269), 0)) (by decide +kernel)) (by decide +kernel) hc_z
        replace hc_z := rn_vret (am_cur_of (i := (102, 1, .return_, (0, 0, 0), 0)) (by decide +kernel)) hc_z
        obtain ⟨e217_z, e218_z⟩ := hc_z
        replace e218_z := e218_z.symm
        subst e218_z
        refine ⟨?_, ((up_ne (by omega)).trans ((up_ne (by omega)).trans (D215)))⟩
        have ek : rg_v (am_up (am_up h211_z 5 ((rg_v h 2 4).toNatClampNeg) (.int v214_z)) 2 4 (.int ((rg_v h 2 4) + 1))) 2 4 = (rg_v h 2 4) + 1 := rg_v_self
        have gk : ((rg_v h 2 4) + 1).toInt = (rg_v h 2 4).toInt + 1 := ab_iadd (by rw [z1_z]; omega) (by rw [z1_z]; omega)
        have k2_z : rg_v (am_up (am_up h211_z 5 ((rg_v h 2 4).toNatClampNeg) (.int v214_z)) 2 4 (.int ((rg_v h 2 4) + 1))) 2 2 = rg_v h 2 2 := ((rg_v_other (by omega)).trans ((rg_v_other (by omega)).trans ((rd_v q213_z (by omega)).trans ((rg_v_other (by omega)).trans ((rd_v q207_z (by omega)).trans ((rd_v q194_z (by omega)).trans ((rd_v q185_z (by omega)).trans (rfl))))))))
        have k9_z : rg_v (am_up (am_up h211_z 5 ((rg_v h 2 4).toNatClampNeg) (.int v214_z)) 2 4 (.int ((rg_v h 2 4) + 1))) 2 9 = rg_v h 2 9 := ((rg_v_other (by omega)).trans ((rg_v_other (by omega)).trans ((rd_v q213_z (by omega)).trans ((rg_v_other (by omega)).trans ((rd_v q207_z (by omega)).trans ((rd_v q194_z (by omega)).trans ((rd_v q185_z (by omega)).trans (rfl))))))))
        have k12_z : rg_v (am_up (am_up h211_z 5 ((rg_v h 2 4).toNatClampNeg) (.int v214_z)) 2 4 (.int ((rg_v h 2 4) + 1))) 2 12 = rg_v h 2 12 := ((rg_v_other (by omega)).trans ((rg_v_other (by omega)).trans ((rd_v q213_z (by omega)).trans ((rg_v_other (by omega)).trans ((rd_v q207_z (by omega)).trans ((rd_v q194_z (by omega)).trans ((rd_v q185_z (by omega)).trans (rfl))))))))
        have f2_z : rg_v (am_up (am_up h211_z 5 ((rg_v h 2 4).toNatClampNeg) (.int v214_z)) 2 4 (.int ((rg_v h 2 4) + 1))) 4 (rg_v h 2 4).toNatClampNeg = i2_z := ((rg_v_other (by omega)).trans ((rg_v_other (by omega)).trans ((rd_v q213_z (by omega)).trans (rg_v_self))))
        have f3_z : rg_v (am_up (am_up h211_z 5 ((rg_v h 2 4).toNatClampNeg) (.int v214_z)) 2 4 (.int ((rg_v h 2 4) + 1))) 5 (rg_v h 2 4).toNatClampNeg = v214_z := ((rg_v_other (by omega)).trans (rg_v_self))
        have w3_z : pv3_z 2 (am_up (am_up h211_z 5 ((rg_v h 2 4).toNatClampNeg) (.int v214_z)) 2 4 (.int ((rg_v h 2 4) + 1))) := by
          intro t ht
          rw [ek, gk] at ht
          by_cases e : t = (rg_v h 2 4).toNatClampNeg
          · rw [e, k2_z]
            show 0 ≤ (rg_v (am_up (am_up h211_z 5 ((rg_v h 2 4).toNatClampNeg) (.int v214_z)) 2 4 (.int ((rg_v h 2 4) + 1))) 4 _).toInt ∧ (rg_v (am_up (am_up h211_z 5 ((rg_v h 2 4).toNatClampNeg) (.int v214_z)) 2 4 (.int ((rg_v h 2 4) + 1))) 4 _).toInt < _ ∧ 1 ≤ (rg_v (am_up (am_up h211_z 5 ((rg_v h 2 4).toNatClampNeg) (.int v214_z)) 2 4 (.int ((rg_v h 2 4) + 1))) 5 _).toInt
            rw [f2_z, f3_z]
            omega
          · have eA : ∀ o, (2 + 2 ≤ o ∧ o ≤ 2 + 3) → rg_v (am_up (am_up h211_z 5 ((rg_v h 2 4).toNatClampNeg) (.int v214_z)) 2 4 (.int ((rg_v h 2 4) + 1))) o t = rg_v h o t := fun o q => ((rg_v_other (by omega)).trans ((rg_v_other (by omega)).trans ((rd_v q213_z (by omega)).trans ((rg_v_other (by omega)).trans ((rd_v q207_z (by omega)).trans ((rd_v q194_z (by omega)).trans ((rd_v q185_z (by omega)).trans (rfl))))))))
            rw [k2_z, eA (2 + 2) (by omega), eA (2 + 3) (by omega)]
            exact v3_z t (by omega)
        exact ⟨pv1_e (fun o k q => ((rg_v_other (by omega)).trans ((rg_v_other (by omega)).trans ((rd_v q213_z (by omega)).trans ((rg_v_other (by omega)).trans ((rd_v q207_z (by omega)).trans ((rd_v q194_z (by omega)).trans ((rd_v q185_z (by omega)).trans (rfl))))))))) v1_z, pv2_e VV.2.2.2.2.2.2 (fun o k q => ((rg_v_other (by omega)).trans ((rg_v_other (by omega)).trans ((rd_v q213_z (by omega)).trans ((rg_v_other (by omega)).trans ((rd_v q207_z (by omega)).trans ((rd_v q194_z (by omega)).trans ((rd_v q185_z (by omega)).trans (rfl))))))))) v2_z, w3_z, pv4_e (fun o k q => ((rg_v_other (by omega)).trans ((rg_v_other (by omega)).trans ((rd_v q213_z (by omega)).trans ((rg_v_other (by omega)).trans ((rd_v q207_z (by omega)).trans ((rd_v q194_z (by omega)).trans ((rd_v q185_z (by omega)).trans (rfl))))))))) v4_z, pv5_e (fun o k q => ((rg_v_other (by omega)).trans ((rg_v_other (by omega)).trans ((rd_v q213_z (by omega)).trans ((rg_v_other (by omega)).trans ((rd_v q207_z (by omega)).trans ((rd_v q194_z (by omega)).trans ((rd_v q185_z (by omega)).trans (rfl))))))))) v5_z, pv6_e (fun o k q => ((rg_v_other (by omega)).trans ((rg_v_other (by omega)).trans ((rd_v q213_z (by omega)).trans ((rg_v_other (by omega)).trans ((rd_v q207_z (by omega)).trans ((rd_v q194_z (by omega)).trans ((rd_v q185_z (by omega)).trans (rfl))))))))) v6_z, (by unfold pv7_z; rw [k2_z, ek, k9_z, k12_z]; omega)⟩
      · replace b203_z : i2_z = ((-1) : Int32) ∧ i2_z.toInt = ((-1) : Int32).toInt := b203_z
        replace hc_z := rn_aload_n (am_cur_of (i := (41, 1, .aload_n 0, (0, 0, 0), 0)) (by decide +kernel)) g0_z hc_z
        replace hc_z := rn_iconst (w := 4) (am_cur_of (i := (42, 1, .iconst 4, (0, 0, 0), 0)) (by decide +kernel)) (by decide) hc_z
        replace hc_z := rn_callV (M' := am_m29) (o := 44) (ar := [.int 4]) (rest := []) (L := lv_args 0 [.ref 44, .int 4]) (am_cur_of (i := (43, 3, .invokevirtual 108, (29, 769, 3), 0)) (by decide +kernel)) rfl rfl rfl rfl hc_z
        obtain ⟨r219_z, h220_z, q221_z, hc_z⟩ := hc_z
        have q222_z := rd_of (a := 29) (by decide) rfl q221_z
        have vo := rn_void rfl q221_z
        subst vo
        have D223 : h220_z 44 6 = .ref 2 := q222_z.2.trans D196
        replace hc_z : rn _ _ _ _ [] _ _ _ := hc_z
        replace hc_z := rn_vret (am_cur_of (i := (46, 1, .return_, (0, 0, 0), 0)) (by decide +kernel)) hc_z
        obtain ⟨e224_z, e225_z⟩ := hc_z
        replace e225_z := e225_z.symm
        subst e225_z
        refine ⟨?_, D223⟩
        exact ⟨pv1_e (fun o k q => ((rd_v q222_z (by omega)).trans ((rd_v q194_z (by omega)).trans ((rd_v q185_z (by omega)).trans (rfl))))) v1_z, pv2_e VV.2.2.2.2.2.2 (fun o k q => ((rd_v q222_z (by omega)).trans ((rd_v q194_z (by omega)).trans ((rd_v q185_z (by omega)).trans (rfl))))) v2_z, pv3_e (fun o k q => ((rd_v q222_z (by omega)).trans ((rd_v q194_z (by omega)).trans ((rd_v q185_z (by omega)).trans (rfl))))) v3_z, pv4_e (fun o k q => ((rd_v q222_z (by omega)).trans ((rd_v q194_z (by omega)).trans ((rd_v q185_z (by omega)).trans (rfl))))) v4_z, pv5_e (fun o k q => ((rd_v q222_z (by omega)).trans ((rd_v q194_z (by omega)).trans ((rd_v q185_z (by omega)).trans (rfl))))) v5_z, pv6_e (fun o k q => ((rd_v q222_z (by omega)).trans ((rd_v q194_z (by omega)).trans ((rd_v q185_z (by omega)).trans (rfl))))) v6_z, pv7_e (fun o k q => ((rd_v q222_z (by omega)).trans ((rd_v q194_z (by omega)).trans ((rd_v q185_z (by omega)).trans (rfl))))) VV.2.2.2.2.2.2⟩
    · replace b197_z : v195_z = (0 : Int32) ∧ v195_z.toInt = (0 : Int32).toInt := b197_z
      replace hc_z := rn_vret (am_cur_of (i := (23, 1, .return_, (0, 0, 0), 0)) (by decide +kernel)) hc_z
      obtain ⟨e226_z, e227_z⟩ := hc_z
      replace e227_z := e227_z.symm
      subst e227_z
      refine ⟨?_, D196⟩
      exact ⟨pv1_e (fun o k q => ((rd_v q194_z (by omega)).trans ((rd_v q185_z (by omega)).trans (rfl)))) v1_z, pv2_e VV.2.2.2.2.2.2 (fun o k q => ((rd_v q194_z (by omega)).trans ((rd_v q185_z (by omega)).trans (rfl)))) v2_z, pv3_e (fun o k q => ((rd_v q194_z (by omega)).trans ((rd_v q185_z (by omega)).trans (rfl)))) v3_z, pv4_e (fun o k q => ((rd_v q194_z (by omega)).trans ((rd_v q185_z (by omega)).trans (rfl)))) v4_z, pv5_e (fun o k q => ((rd_v q194_z (by omega)).trans ((rd_v q185_z (by omega)).trans (rfl)))) v5_z, pv6_e (fun o k q => ((rd_v q194_z (by omega)).trans ((rd_v q185_z (by omega)).trans (rfl)))) v6_z, pv7_e (fun o k q => ((rd_v q194_z (by omega)).trans ((rd_v q185_z (by omega)).trans (rfl)))) VV.2.2.2.2.2.2⟩
theorem sd_36_2 {n : Nat} {r : Option Value} {h h' : am_H} (D : h 44 6 = .ref 2) (V : pv 2 h) (hc_z : rn n am_m36 0 (lv_args 0 [.ref 44]) [] h r h') : pv 2 h' ∧ h' 44 6 = .ref 2 := by
  have z1_z : (1 : Int32).toInt = 1 := by decide
  have z99_z : (99 : Int32).toInt = 99 := by decide
  have g0_z : am_get (lv_args 0 [.ref 44]) 0 = some (.ref 44) := rfl
  have VV := V
  obtain ⟨v1_z, v2_z, v3_z, v4_z, v5_z, v6_z, ⟨n0_z, n4_z⟩, ⟨t0_z, t8_z⟩, ⟨l0_z, l6_z⟩, ⟨r0_z, r3_z⟩⟩ := V
  replace hc_z := rn_aload_n (am_cur_of (i := (0, 1, .aload_n 0, (0, 0, 0), 0)) (by decide +kernel)) g0_z hc_z
  replace hc_z := rn_iconst (w := 3) (am_cur_of (i := (1, 1, .iconst 3, (0, 0, 0), 0)) (by decide +kernel)) (by decide) hc_z
  replace hc_z := rn_callV (M' := am_m28) (o := 44) (ar := [.int 3]) (rest := []) (L := lv_args 0 [.ref 44, .int 3]) (am_cur_of (i := (2, 3, .invokevirtual 139, (28, 765, 3), 0)) (by decide +kernel)) rfl rfl rfl rfl hc_z
  obtain ⟨r228_z, h229_z, q230_z, hc_z⟩ := hc_z
  have q231_z := rd_of (a := 28) (by decide) rfl q230_z
  have vo := rn_void rfl q230_z
  subst vo
  have D232 : h229_z 44 6 = .ref 2 := q231_z.2.trans D
  replace hc_z : rn _ _ _ _ [] _ _ _ := hc_z
  replace hc_z := rn_aload_n (am_cur_of (i := (5, 1, .aload_n 0, (0, 0, 0), 0)) (by decide +kernel)) g0_z hc_z
  replace hc_z := rn_getM (x := 2) (am_cur_of (i := (6, 3, .getfield 25, (4, 6, 415), 0)) (by decide +kernel)) D232 hc_z
  replace hc_z := rn_aload_n (am_cur_of (i := (9, 1, .aload_n 0, (0, 0, 0), 0)) (by decide +kernel)) g0_z hc_z
  replace hc_z := rn_iconst (w := 1) (am_cur_of (i := (10, 1, .iconst 1, (0, 0, 0), 0)) (by decide +kernel)) (by decide) hc_z
  replace hc_z := rn_bipush (w := 99) (am_cur_of (i := (11, 2, .bipush 99, (0, 0, 0), 0)) (by decide +kernel)) (by decide) hc_z
  replace hc_z := rn_callV (M' := am_m30) (o := 44) (ar := [.int 99, .int 1]) (rest := [.ref 2]) (L := lv_args 0 [.ref 44, .int 1, .int 99]) (am_cur_of (i := (13, 3, .invokevirtual 142, (30, 773, 3), 0)) (by decide +kernel)) rfl rfl rfl rfl hc_z
  obtain ⟨r233_z, h234_z, q235_z, hc_z⟩ := hc_z
  have q236_z := rd_of (a := 30) (by decide) rfl q235_z
  obtain ⟨v237_z, rfl, lv237_z, uv237_z⟩ := sd_30 (by decide) q235_z
  have D238 : h234_z 44 6 = .ref 2 := q236_z.2.trans D232
  replace hc_z : rn _ _ _ _ [.int v237_z, .ref 2] _ _ _ := hc_z
  replace hc_z := rn_put (am_cur_of (i := (16, 3, .putfield 205, (1, 7, 278), 0)) (by decide +kernel)) (by decide +kernel) hc_z
  replace hc_z := rn_aload_n (am_cur_of (i := (19, 1, .aload_n 0, (0, 0, 0), 0)) (by decide +kernel)) g0_z hc_z
  replace hc_z := rn_getM (x := 2) (am_cur_of (i := (20, 3, .getfield 25, (4, 6, 415), 0)) (by decide +kernel)) (show (am_up h234_z 2 7 (.int v237_z)) 44 6 = .ref 2 from D238) hc_z
  replace hc_z := rn_aload_n (am_cur_of (i := (23, 1, .aload_n 0, (0, 0, 0), 0)) (by decide +kernel)) g0_z hc_z
  replace hc_z := rn_iconst (w := 1) (am_cur_of (i := (24, 1, .iconst 1, (0, 0, 0), 0)) (by decide +kernel)) (by decide) hc_z
  replace hc_z := rn_bipush (w := 99) (am_cur_of (i := (25, 2, .bipush 99, (0, 0, 0), 0)) (by decide +kernel)) (by decide) hc_z
  replace hc_z := rn_callV (M' := am_m30) (o := 44) (ar := [.int 99, .int 1]) (rest := [.ref 2]) (L := lv_args 0 [.ref 44, .int 1, .int 99]) (am_cur_of (i := (27, 3, .invokevirtual 142, (30, 773, 3), 0)) (by decide +kernel)) rfl rfl rfl rfl hc_z
  obtain ⟨r239_z, h240_z, q241_z, hc_z⟩ := hc_z
  have q242_z := rd_of (a := 30) (by decide) rfl q241_z
  obtain ⟨v243_z, rfl, lv243_z, uv243_z⟩ := sd_30 (by decide) q241_z
  have D244 : h240_z 44 6 = .ref 2 := q242_z.2.trans (show (am_up h234_z 2 7 (.int v237_z)) 44 6 = .ref 2 from ((up_ne (by omega)).trans (D238)))
  replace hc_z : rn _ _ _ _ [.int v243_z, .ref 2] _ _ _ := hc_z
  replace hc_z := rn_put (am_cur_of (i := (30, 3, .putfield 208, (1, 8, 282), 0)) (by decide +kernel)) (by decide +kernel) hc_z
  replace hc_z := rn_vret (am_cur_of (i := (33, 1, .return_, (0, 0, 0), 0)) (by decide +kernel)) hc_z
  obtain ⟨e245_z, e246_z⟩ := hc_z
  replace e246_z := e246_z.symm
  subst e246_z
  refine ⟨?_, ((up_ne (by omega)).trans (D244))⟩
  have e0_z : rg_v (am_up h240_z 2 8 (.int v243_z)) 2 7 = v237_z := ((rg_v_other (by omega)).trans ((rd_v q242_z (by omega)).trans (rg_v_self)))
  have e1_z : rg_v (am_up h240_z 2 8 (.int v243_z)) 2 8 = v243_z := rg_v_self
  exact ⟨pv1_e (fun o k q => ((rg_v_other (by omega)).trans ((rd_v q242_z (by omega)).trans ((rg_v_other (by omega)).trans ((rd_v q236_z (by omega)).trans ((rd_v q231_z (by omega)).trans (rfl))))))) v1_z, pv2_e VV.2.2.2.2.2.2 (fun o k q => ((rg_v_other (by omega)).trans ((rd_v q242_z (by omega)).trans ((rg_v_other (by omega)).trans ((rd_v q236_z (by omega)).trans ((rd_v q231_z (by omega)).trans (rfl))))))) v2_z, pv3_e (fun o k q => ((rg_v_other (by omega)).trans ((rd_v q242_z (by omega)).trans ((rg_v_other (by omega)).trans ((rd_v q236_z (by omega)).trans ((rd_v q231_z (by omega)).trans (rfl))))))) v3_z, (by unfold pv4_z; rw [e0_z, e1_z]; exact Or.inr (by omega)), pv5_e (fun o k q => ((rg_v_other (by omega)).trans ((rd_v q242_z (by omega)).trans ((rg_v_other (by omega)).trans ((rd_v q236_z (by omega)).trans ((rd_v q231_z (by omega)).trans (rfl))))))) v5_z, pv6_e (fun o k q => ((rg_v_other (by omega)).trans ((rd_v q242_z (by omega)).trans ((rg_v_other (by omega)).trans ((rd_v q236_z (by omega)).trans ((rd_v q231_z (by omega)).trans (rfl))))))) v6_z, pv7_e (fun o k q => ((rg_v_other (by omega)).trans ((rd_v q242_z (by omega)).trans ((rg_v_other (by omega)).trans ((rd_v q236_z (by omega)).trans ((rd_v q231_z (by omega)).trans (rfl))))))) VV.2.2.2.2.2.2⟩
theorem sd_37_2 {n : Nat} {r : Option Value} {h h' : am_H} (D : h 44 6 = .ref 2) (V : pv 2 h) (hc_z : rn n am_m37 0 (lv_args 0 [.ref 44]) [] h r h') : pv 2 h' ∧ h' 44 6 = .ref 2 := by
  have z0_z : (0 : Int32).toInt = 0 := by decide
  have z1_z : (1 : Int32).toInt = 1 := by decide
  have z99_z : (99 : Int32).toInt = 99 := by decide
  have g0_z : am_get (lv_args 0 [.ref 44]) 0 = some (.ref 44) := rfl
  have VV := V
  obtain ⟨v1_z, v2_z, v3_z, v4_z, v5_z, v6_z, ⟨n0_z, n4_z⟩, ⟨t0_z, t8_z⟩, ⟨l0_z, l6_z⟩, ⟨r0_z, r3_z⟩⟩ := V
  replace hc_z := rn_aload_n (am_cur_of (i := (0, 1, .aload_n 0, (0, 0, 0), 0)) (by decide +kernel)) g0_z hc_z
  replace hc_z := rn_aload_n (am_cur_of (i := (1, 1, .aload_n 0, (0, 0, 0), 0)) (by decide +kernel)) g0_z hc_z
  replace hc_z := rn_getM (x := 2) (am_cur_of (i := (2, 3, .getfield 25, (4, 6, 415), 0)) (by decide +kernel)) D hc_z
  replace hc_z := rn_getI (v := rg_v h 2 9) (am_cur_of (i := (5, 3, .getfield 211, (1, 9, 286), 0)) (by decide +kernel)) (by decide +kernel) rfl hc_z
  replace hc_z := rn_bipush (w := 6) (am_cur_of (i := (8, 2, .bipush 6, (0, 0, 0), 0)) (by decide +kernel)) (by decide) hc_z
  replace hc_z := rn_callV (M' := am_m32) (o := 44) (ar := [.int 6, .int (rg_v h 2 9)]) (rest := []) (L := lv_args 0 [.ref 44, .int (rg_v h 2 9), .int 6]) (am_cur_of (i := (10, 3, .invokevirtual 154, (32, 781, 3), 0)) (by decide +kernel)) rfl rfl rfl rfl hc_z
  obtain ⟨r247_z, h248_z, q249_z, hc_z⟩ := hc_z
  have q250_z := rd_of (a := 32) (by decide) rfl q249_z
  obtain ⟨v251_z, rfl⟩ := rn_ret (M := am_m32) rfl (by decide) q249_z
  have D252 : h248_z 44 6 = .ref 2 := q250_z.2.trans D
  replace hc_z : rn _ _ _ _ [.int v251_z] _ _ _ := hc_z
  replace hc_z := rn_if (am_cur_of (i := (13, 3, .ifCond .ne 4, (8, 0, 0), 0)) (by decide +kernel)) hc_z
  rcases hc_z with ⟨b253_z, hc_z⟩ | ⟨b253_z, hc_z⟩
  · replace b253_z : ¬ v251_z = (0 : Int32) ∧ ¬ v251_z.toInt = (0 : Int32).toInt := b253_z
    replace hc_z := rn_aload_n (am_cur_of (i := (17, 1, .aload_n 0, (0, 0, 0), 0)) (by decide +kernel)) g0_z hc_z
    replace hc_z := rn_getM (x := 2) (am_cur_of (i := (18, 3, .getfield 25, (4, 6, 415), 0)) (by decide +kernel)) D252 hc_z
    replace hc_z := rn_getR (x := 6) (am_cur_of (i := (21, 3, .getfield 214, (1, 10, 289), 0)) (by decide +kernel)) (by decide +kernel) hc_z
    replace hc_z := rn_aload_n (am_cur_of (i := (24, 1, .aload_n 0, (0, 0, 0), 0)) (by decide +kernel)) g0_z hc_z
    replace hc_z := rn_getM (x := 2) (am_cur_of (i := (25, 3, .getfield 25, (4, 6, 415), 0)) (by decide +kernel)) D252 hc_z
    replace hc_z := rn_getI (v := rg_v h 2 9) (am_cur_of (i := (28, 3, .getfield 211, (1, 9, 286), 0)) (by decide +kernel)) (by decide +kernel) ((rd_v q250_z (by omega)).trans (rfl)) hc_z
    replace hc_z := rn_aload_n (am_cur_of (i := (31, 1, .aload_n 0, (0, 0, 0), 0)) (by decide +kernel)) g0_z hc_z
    replace hc_z := rn_iconst (w := 1) (am_cur_of (i := (32, 1, .iconst 1, (0, 0, 0), 0)) (by decide +kernel)) (by decide) hc_z
    replace hc_z := rn_bipush (w := 99) (am_cur_of (i := (33, 2, .bipush 99, (0, 0, 0), 0)) (by decide +kernel)) (by decide) hc_z
    replace hc_z := rn_callV (M' := am_m30) (o := 44) (ar := [.int 99, .int 1]) (rest := [.int (rg_v h 2 9), .ref 6]) (L := lv_args 0 [.ref 44, .int 1, .int 99]) (am_cur_of (i := (35, 3, .invokevirtual 142, (30, 773, 3), 0)) (by decide +kernel)) rfl rfl rfl rfl hc_z
    obtain ⟨r254_z, h255_z, q256_z, hc_z⟩ := hc_z
    have q257_z := rd_of (a := 30) (by decide) rfl q256_z
    obtain ⟨v258_z, rfl, lv258_z, uv258_z⟩ := sd_30 (by decide) q256_z
    have D259 : h255_z 44 6 = .ref 2 := q257_z.2.trans D252
    replace hc_z : rn _ _ _ _ [.int v258_z, .int (rg_v h 2 9), .ref 6] _ _ _ := hc_z
    replace hc_z := rn_iastore (N := 6) (q := (rg_v h 2 9).toNatClampNeg) (am_cur_of (i := (38, 1, .iastore, (0, 0, 0), 0)) (by decide +kernel)) (by decide +kernel) rfl hc_z
    obtain ⟨p260_z, hc_z⟩ := hc_z
    replace hc_z := rn_aload_n (am_cur_of (i := (39, 1, .aload_n 0, (0, 0, 0), 0)) (by decide +kernel)) g0_z hc_z
    replace hc_z := rn_getM (x := 2) (am_cur_of (i := (40, 3, .getfield 25, (4, 6, 415), 0)) (by decide +kernel)) (show (am_up h255_z 6 ((rg_v h 2 9).toNatClampNeg) (.int v258_z)) 44 6 = .ref 2 from D259) hc_z
    replace hc_z := rn_getR (x := 7) (am_cur_of (i := (43, 3, .getfield 217, (1, 11, 293), 0)) (by decide +kernel)) (by decide +kernel) hc_z
    replace hc_z := rn_aload_n (am_cur_of (i := (46, 1, .aload_n 0, (0, 0, 0), 0)) (by decide +kernel)) g0_z hc_z
    replace hc_z := rn_getM (x := 2) (am_cur_of (i := (47, 3, .getfield 25, (4, 6, 415), 0)) (by decide +kernel)) (show (am_up h255_z 6 ((rg_v h 2 9).toNatClampNeg) (.int v258_z)) 44 6 = .ref 2 from D259) hc_z
    replace hc_z := rn_getI (v := rg_v h 2 9) (am_cur_of (i := (50, 3, .getfield 211, (1, 9, 286), 0)) (by decide +kernel)) (by decide +kernel) ((rg_v_other (by omega)).trans ((rd_v q257_z (by omega)).trans ((rd_v q250_z (by omega)).trans (rfl)))) hc_z
    replace hc_z := rn_aload_n (am_cur_of (i := (53, 1, .aload_n 0, (0, 0, 0), 0)) (by decide +kernel)) g0_z hc_z
    replace hc_z := rn_iconst (w := 0) (am_cur_of (i := (54, 1, .iconst 0, (0, 0, 0), 0)) (by decide +kernel)) (by decide) hc_z
    replace hc_z := rn_bipush (w := 99) (am_cur_of (i := (55, 2, .bipush 99, (0, 0, 0), 0)) (by decide +kernel)) (by decide) hc_z
    replace hc_z := rn_callV (M' := am_m30) (o := 44) (ar := [.int 99, .int 0]) (rest := [.int (rg_v h 2 9), .ref 7]) (L := lv_args 0 [.ref 44, .int 0, .int 99]) (am_cur_of (i := (57, 3, .invokevirtual 142, (30, 773, 3), 0)) (by decide +kernel)) rfl rfl rfl rfl hc_z
    obtain ⟨r261_z, h262_z, q263_z, hc_z⟩ := hc_z
    have q264_z := rd_of (a := 30) (by decide) rfl q263_z
    obtain ⟨v265_z, rfl, lv265_z, uv265_z⟩ := sd_30 (by decide) q263_z
    have D266 : h262_z 44 6 = .ref 2 := q264_z.2.trans (show (am_up h255_z 6 ((rg_v h 2 9).toNatClampNeg) (.int v258_z)) 44 6 = .ref 2 from ((up_ne (by omega)).trans (D259)))
    replace hc_z : rn _ _ _ _ [.int v265_z, .int (rg_v h 2 9), .ref 7] _ _ _ := hc_z
    replace hc_z := rn_iastore (N := 6) (q := (rg_v h 2 9).toNatClampNeg) (am_cur_of (i := (60, 1, .iastore, (0, 0, 0), 0)) (by decide +kernel)) (by decide +kernel) rfl hc_z
    obtain ⟨p267_z, hc_z⟩ := hc_z
    replace hc_z := rn_aload_n (am_cur_of (i := (61, 1, .aload_n 0, (0, 0, 0), 0)) (by decide +kernel)) g0_z hc_z
    replace hc_z := rn_getM (x := 2) (am_cur_of (i := (62, 3, .getfield 25, (4, 6, 415), 0)) (by decide +kernel)) (show (am_up h262_z 7 ((rg_v h 2 9).toNatClampNeg) (.int v265_z)) 44 6 = .ref 2 from D266) hc_z
    replace hc_z := rn_dup (am_cur_of (i := (65, 1, .dup, (0, 0, 0), 0)) (by decide +kernel)) hc_z
    replace hc_z := rn_getI (v := rg_v h 2 9) (am_cur_of (i := (66, 3, .getfield 211, (1, 9, 286), 0)) (by decide +kernel)) (by decide +kernel) ((rg_v_other (by omega)).trans ((rd_v q264_z (by omega)).trans ((rg_v_other (by omega)).trans ((rd_v q257_z (by omega)).trans ((rd_v q250_z (by omega)).trans (rfl)))))) hc_z
    replace hc_z := rn_iconst (w := 1) (am_cur_of (i := (69, 1, .iconst 1, (0, 0, 0), 0)) (by decide +kernel)) (by decide) hc_z
    replace hc_z := rn_iadd (w := (rg_v h 2 9) + 1) (am_cur_of (i := (70, 1, .iadd, (0, 0, 0), 0)) (by decide +kernel)) rfl hc_z
    replace hc_z := rn_put (am_cur_of (i := (71, 3, .putfield 211, (1, 9, 286), 0)) (by decide +kernel)) (by decide +kernel) hc_z
    replace hc_z := rn_vret (am_cur_of (i := (74, 1, .return_, (0, 0, 0), 0)) (by decide +kernel)) hc_z
    obtain ⟨e268_z, e269_z⟩ := hc_z
    replace e269_z := e269_z.symm
    subst e269_z
    refine ⟨?_, ((up_ne (by omega)).trans ((up_ne (by omega)).trans (D266)))⟩
    have ek : rg_v (am_up (am_up h262_z 7 ((rg_v h 2 9).toNatClampNeg) (.int v265_z)) 2 9 (.int ((rg_v h 2 9) + 1))) 2 9 = (rg_v h 2 9) + 1 := rg_v_self
    have gk : ((rg_v h 2 9) + 1).toInt = (rg_v h 2 9).toInt + 1 := ab_iadd (by rw [z1_z]; omega) (by rw [z1_z]; omega)
    have k2_z : rg_v (am_up (am_up h262_z 7 ((rg_v h 2 9).toNatClampNeg) (.int v265_z)) 2 9 (.int ((rg_v h 2 9) + 1))) 2 2 = rg_v h 2 2 := ((rg_v_other (by omega)).trans ((rg_v_other (by omega)).trans ((rd_v q264_z (by omega)).trans ((rg_v_other (by omega)).trans ((rd_v q257_z (by omega)).trans ((rd_v q250_z (by omega)).trans (rfl)))))))
    have k4_z : rg_v (am_up (am_up h262_z 7 ((rg_v h 2 9).toNatClampNeg) (.int v265_z)) 2 9 (.int ((rg_v h 2 9) + 1))) 2 4 = rg_v h 2 4 := ((rg_v_other (by omega)).trans ((rg_v_other (by omega)).trans ((rd_v q264_z (by omega)).trans ((rg_v_other (by omega)).trans ((rd_v q257_z (by omega)).trans ((rd_v q250_z (by omega)).trans (rfl)))))))
    have k12_z : rg_v (am_up (am_up h262_z 7 ((rg_v h 2 9).toNatClampNeg) (.int v265_z)) 2 9 (.int ((rg_v h 2 9) + 1))) 2 12 = rg_v h 2 12 := ((rg_v_other (by omega)).trans ((rg_v_other (by omega)).trans ((rd_v q264_z (by omega)).trans ((rg_v_other (by omega)).trans ((rd_v q257_z (by omega)).trans ((rd_v q250_z (by omega)).trans (rfl)))))))
    have f2_z : rg_v (am_up (am_up h262_z 7 ((rg_v h 2 9).toNatClampNeg) (.int v265_z)) 2 9 (.int ((rg_v h 2 9) + 1))) 6 (rg_v h 2 9).toNatClampNeg = v258_z := ((rg_v_other (by omega)).trans ((rg_v_other (by omega)).trans ((rd_v q264_z (by omega)).trans (rg_v_self))))
    have w5_z : pv5_z 2 (am_up (am_up h262_z 7 ((rg_v h 2 9).toNatClampNeg) (.int v265_z)) 2 9 (.int ((rg_v h 2 9) + 1))) := by
      intro t ht
      rw [ek, gk] at ht
      by_cases e : t = (rg_v h 2 9).toNatClampNeg
      · rw [e]
        show 1 ≤ (rg_v (am_up (am_up h262_z 7 ((rg_v h 2 9).toNatClampNeg) (.int v265_z)) 2 9 (.int ((rg_v h 2 9) + 1))) 6 _).toInt
        rw [f2_z]
        omega
      · have eA : rg_v (am_up (am_up h262_z 7 ((rg_v h 2 9).toNatClampNeg) (.int v265_z)) 2 9 (.int ((rg_v h 2 9) + 1))) (2 + 4) t = rg_v h (2 + 4) t := ((rg_v_other (by omega)).trans ((rg_v_other (by omega)).trans ((rd_v q264_z (by omega)).trans ((rg_v_other (by omega)).trans ((rd_v q257_z (by omega)).trans ((rd_v q250_z (by omega)).trans (rfl)))))))
        rw [eA]
        exact v5_z t (by omega)
    exact ⟨pv1_e (fun o k q => ((rg_v_other (by omega)).trans ((rg_v_other (by omega)).trans ((rd_v q264_z (by omega)).trans ((rg_v_other (by omega)).trans ((rd_v q257_z (by omega)).trans ((rd_v q250_z (by omega)).trans (rfl)))))))) v1_z, pv2_e VV.2.2.2.2.2.2 (fun o k q => ((rg_v_other (by omega)).trans ((rg_v_other (by omega)).trans ((rd_v q264_z (by omega)).trans ((rg_v_other (by omega)).trans ((rd_v q257_z (by omega)).trans ((rd_v q250_z (by omega)).trans (rfl)))))))) v2_z, pv3_e (fun o k q => ((rg_v_other (by omega)).trans ((rg_v_other (by omega)).trans ((rd_v q264_z (by omega)).trans ((rg_v_other (by omega)).trans ((rd_v q257_z (by omega)).trans ((rd_v q250_z (by omega)).trans (rfl)))))))) v3_z, pv4_e (fun o k q => ((rg_v_other (by omega)).trans ((rg_v_other (by omega)).trans ((rd_v q264_z (by omega)).trans ((rg_v_other (by omega)).trans ((rd_v q257_z (by omega)).trans ((rd_v q250_z (by omega)).trans (rfl)))))))) v4_z, w5_z, pv6_e (fun o k q => ((rg_v_other (by omega)).trans ((rg_v_other (by omega)).trans ((rd_v q264_z (by omega)).trans ((rg_v_other (by omega)).trans ((rd_v q257_z (by omega)).trans ((rd_v q250_z (by omega)).trans (rfl)))))))) v6_z, (by unfold pv7_z; rw [k2_z, k4_z, ek, k12_z]; omega)⟩
  · replace b253_z : v251_z = (0 : Int32) ∧ v251_z.toInt = (0 : Int32).toInt := b253_z
    replace hc_z := rn_vret (am_cur_of (i := (16, 1, .return_, (0, 0, 0), 0)) (by decide +kernel)) hc_z
    obtain ⟨e270_z, e271_z⟩ := hc_z
    replace e271_z := e271_z.symm
    subst e271_z
    refine ⟨?_, D252⟩
    exact ⟨pv1_e (fun o k q => ((rd_v q250_z (by omega)).trans (rfl))) v1_z, pv2_e VV.2.2.2.2.2.2 (fun o k q => ((rd_v q250_z (by omega)).trans (rfl))) v2_z, pv3_e (fun o k q => ((rd_v q250_z (by omega)).trans (rfl))) v3_z, pv4_e (fun o k q => ((rd_v q250_z (by omega)).trans (rfl))) v4_z, pv5_e (fun o k q => ((rd_v q250_z (by omega)).trans (rfl))) v5_z, pv6_e (fun o k q => ((rd_v q250_z (by omega)).trans (rfl))) v6_z, pv7_e (fun o k q => ((rd_v q250_z (by omega)).trans (rfl))) VV.2.2.2.2.2.2⟩
theorem sd_38_2 {n : Nat} {r : Option Value} {h h' : am_H} (D : h 44 6 = .ref 2) (V : pv 2 h) (hc_z : rn n am_m38 0 (lv_args 0 [.ref 44]) [] h r h') : pv 2 h' ∧ h' 44 6 = .ref 2 := by
  have zm1_z : ((-1) : Int32).toInt = (-1) := by decide
  have z0_z : (0 : Int32).toInt = 0 := by decide
  have z1_z : (1 : Int32).toInt = 1 := by decide
  have z99_z : (99 : Int32).toInt = 99 := by decide
  have z100_z : (100 : Int32).toInt = 100 := by decide
  have g0_z : am_get (lv_args 0 [.ref 44]) 0 = some (.ref 44) := rfl
  have VV := V
  obtain ⟨v1_z, v2_z, v3_z, v4_z, v5_z, v6_z, ⟨n0_z, n4_z⟩, ⟨t0_z, t8_z⟩, ⟨l0_z, l6_z⟩, ⟨r0_z, r3_z⟩⟩ := V
  replace hc_z := rn_aload_n (am_cur_of (i := (0, 1, .aload_n 0, (0, 0, 0), 0)) (by decide +kernel)) g0_z hc_z
  replace hc_z := rn_aload_n (am_cur_of (i := (1, 1, .aload_n 0, (0, 0, 0), 0)) (by decide +kernel)) g0_z hc_z
  replace hc_z := rn_getM (x := 2) (am_cur_of (i := (2, 3, .getfield 25, (4, 6, 415), 0)) (by decide +kernel)) D hc_z
  replace hc_z := rn_getI (v := rg_v h 2 12) (am_cur_of (i := (5, 3, .getfield 220, (1, 12, 296), 0)) (by decide +kernel)) (by decide +kernel) rfl hc_z
  replace hc_z := rn_iconst (w := 3) (am_cur_of (i := (8, 1, .iconst 3, (0, 0, 0), 0)) (by decide +kernel)) (by decide) hc_z
  replace hc_z := rn_callV (M' := am_m32) (o := 44) (ar := [.int 3, .int (rg_v h 2 12)]) (rest := []) (L := lv_args 0 [.ref 44, .int (rg_v h 2 12), .int 3]) (am_cur_of (i := (9, 3, .invokevirtual 154, (32, 781, 3), 0)) (by decide +kernel)) rfl rfl rfl rfl hc_z
  obtain ⟨r272_z, h273_z, q274_z, hc_z⟩ := hc_z
  have q275_z := rd_of (a := 32) (by decide) rfl q274_z
  obtain ⟨v276_z, rfl⟩ := rn_ret (M := am_m32) rfl (by decide) q274_z
  have D277 : h273_z 44 6 = .ref 2 := q275_z.2.trans D
  replace hc_z : rn _ _ _ _ [.int v276_z] _ _ _ := hc_z
  replace hc_z := rn_if (am_cur_of (i := (12, 3, .ifCond .eq 10, (10, 0, 0), 0)) (by decide +kernel)) hc_z
  rcases hc_z with ⟨b278_z, hc_z⟩ | ⟨b278_z, hc_z⟩
  · replace b278_z : v276_z = (0 : Int32) ∧ v276_z.toInt = (0 : Int32).toInt := b278_z
    replace hc_z := rn_vret (am_cur_of (i := (22, 1, .return_, (0, 0, 0), 0)) (by decide +kernel)) hc_z
    obtain ⟨e279_z, e280_z⟩ := hc_z
    replace e280_z := e280_z.symm
    subst e280_z
    refine ⟨?_, D277⟩
    exact ⟨pv1_e (fun o k q => ((rd_v q275_z (by omega)).trans (rfl))) v1_z, pv2_e VV.2.2.2.2.2.2 (fun o k q => ((rd_v q275_z (by omega)).trans (rfl))) v2_z, pv3_e (fun o k q => ((rd_v q275_z (by omega)).trans (rfl))) v3_z, pv4_e (fun o k q => ((rd_v q275_z (by omega)).trans (rfl))) v4_z, pv5_e (fun o k q => ((rd_v q275_z (by omega)).trans (rfl))) v5_z, pv6_e (fun o k q => ((rd_v q275_z (by omega)).trans (rfl))) v6_z, pv7_e (fun o k q => ((rd_v q275_z (by omega)).trans (rfl))) VV.2.2.2.2.2.2⟩
  · replace b278_z : ¬ v276_z = (0 : Int32) ∧ ¬ v276_z.toInt = (0 : Int32).toInt := b278_z
    replace hc_z := rn_aload_n (am_cur_of (i := (15, 1, .aload_n 0, (0, 0, 0), 0)) (by decide +kernel)) g0_z hc_z
    replace hc_z := rn_callV (M' := am_m33) (o := 44) (ar := []) (rest := []) (L := lv_args 0 [.ref 44]) (am_cur_of (i := (16, 3, .invokevirtual 158, (33, 785, 3), 0)) (by decide +kernel)) rfl rfl rfl rfl hc_z
    obtain ⟨r281_z, h282_z, q283_z, hc_z⟩ := hc_z
    have q284_z := rd_of (a := 33) (by decide) rfl q283_z
    obtain ⟨v285_z, rfl⟩ := rn_ret (M := am_m33) rfl (by decide) q283_z
    have D286 : h282_z 44 6 = .ref 2 := q284_z.2.trans D277
    replace hc_z : rn _ _ _ _ [.int v285_z] _ _ _ := hc_z
    replace hc_z := rn_if (am_cur_of (i := (19, 3, .ifCond .ne 4, (11, 0, 0), 0)) (by decide +kernel)) hc_z
    rcases hc_z with ⟨b287_z, hc_z⟩ | ⟨b287_z, hc_z⟩
    · replace b287_z : ¬ v285_z = (0 : Int32) ∧ ¬ v285_z.toInt = (0 : Int32).toInt := b287_z
      replace hc_z := rn_aload_n (am_cur_of (i := (23, 1, .aload_n 0, (0, 0, 0), 0)) (by decide +kernel)) g0_z hc_z
      replace hc_z := rn_getM (x := 2) (am_cur_of (i := (24, 3, .getfield 25, (4, 6, 415), 0)) (by decide +kernel)) D286 hc_z
      replace hc_z := rn_aload_n (am_cur_of (i := (27, 1, .aload_n 0, (0, 0, 0), 0)) (by decide +kernel)) g0_z hc_z
      replace hc_z := rn_getI (v := rg_v h282_z 44 11) (am_cur_of (i := (28, 3, .getfield 91, (4, 11, 420), 0)) (by decide +kernel)) (by decide +kernel) rfl hc_z
      replace hc_z := rn_callV (M' := am_m39) (o := 2) (ar := [.int (rg_v h282_z 44 11)]) (rest := []) (L := lv_args 0 [.ref 2, .int (rg_v h282_z 44 11)]) (am_cur_of (i := (31, 3, .invokevirtual 223, (39, 809, 3), 0)) (by decide +kernel)) rfl rfl rfl rfl hc_z
      obtain ⟨r288_z, h289_z, q290_z, hc_z⟩ := hc_z
      have q291_z := rd_of (a := 39) (by decide) rfl q290_z
      obtain ⟨v292_z, rfl⟩ := rn_ret (M := am_m39) rfl (by decide) q290_z
      have D293 : h289_z 44 6 = .ref 2 := q291_z.2.trans D286
      replace hc_z : rn _ _ _ _ [.int v292_z] _ _ _ := hc_z
      replace hc_z := rn_iconst (w := (-1)) (am_cur_of (i := (34, 1, .iconst (-1), (0, 0, 0), 0)) (by decide +kernel)) (by decide) hc_z
      replace hc_z := rn_cmp (am_cur_of (i := (35, 3, .if_icmp .eq 9, (22, 0, 0), 0)) (by decide +kernel)) hc_z
      rcases hc_z with ⟨b294_z, hc_z⟩ | ⟨b294_z, hc_z⟩
      · replace b294_z : v292_z = ((-1) : Int32) ∧ v292_z.toInt = ((-1) : Int32).toInt := b294_z
        replace hc_z := rn_aload_n (am_cur_of (i := (44, 1, .aload_n 0, (0, 0, 0), 0)) (by decide +kernel)) g0_z hc_z
        replace hc_z := rn_getM (x := 2) (am_cur_of (i := (45, 3, .getfield 25, (4, 6, 415), 0)) (by decide +kernel)) D293 hc_z
        replace hc_z := rn_getR (x := 8) (am_cur_of (i := (48, 3, .getfield 226, (1, 13, 299), 0)) (by decide +kernel)) (by decide +kernel) hc_z
        replace hc_z := rn_aload_n (am_cur_of (i := (51, 1, .aload_n 0, (0, 0, 0), 0)) (by decide +kernel)) g0_z hc_z
        replace hc_z := rn_getM (x := 2) (am_cur_of (i := (52, 3, .getfield 25, (4, 6, 415), 0)) (by decide +kernel)) D293 hc_z
        replace hc_z := rn_getI (v := rg_v h 2 12) (am_cur_of (i := (55, 3, .getfield 220, (1, 12, 296), 0)) (by decide +kernel)) (by decide +kernel) ((rd_v q291_z (by omega)).trans ((rd_v q284_z (by omega)).trans ((rd_v q275_z (by omega)).trans (rfl)))) hc_z
        replace hc_z := rn_aload_n (am_cur_of (i := (58, 1, .aload_n 0, (0, 0, 0), 0)) (by decide +kernel)) g0_z hc_z
        replace hc_z := rn_getI (v := rg_v h289_z 44 11) (am_cur_of (i := (59, 3, .getfield 91, (4, 11, 420), 0)) (by decide +kernel)) (by decide +kernel) rfl hc_z
        replace hc_z := rn_iastore (N := 3) (q := (rg_v h 2 12).toNatClampNeg) (am_cur_of (i := (62, 1, .iastore, (0, 0, 0), 0)) (by decide +kernel)) (by decide +kernel) rfl hc_z
        obtain ⟨p295_z, hc_z⟩ := hc_z
        replace hc_z := rn_aload_n (am_cur_of (i := (63, 1, .aload_n 0, (0, 0, 0), 0)) (by decide +kernel)) g0_z hc_z
        replace hc_z := rn_callV (M' := am_m19) (o := 44) (ar := []) (rest := []) (L := lv_args 0 [.ref 44]) (am_cur_of (i := (64, 3, .invokevirtual 57, (19, 727, 3), 0)) (by decide +kernel)) rfl rfl rfl rfl hc_z
        obtain ⟨r296_z, h297_z, q298_z, hc_z⟩ := hc_z
        have q299_z := rd_of (a := 19) (by decide) rfl q298_z
        have vo := rn_void rfl q298_z
        subst vo
        have D300 : h297_z 44 6 = .ref 2 := q299_z.2.trans (show (am_up h289_z 8 ((rg_v h 2 12).toNatClampNeg) (.int (rg_v h289_z 44 11))) 44 6 = .ref 2 from ((up_ne (by omega)).trans (D293)))
        replace hc_z : rn _ _ _ _ [] _ _ _ := hc_z
        replace hc_z := rn_aload_n (am_cur_of (i := (67, 1, .aload_n 0, (0, 0, 0), 0)) (by decide +kernel)) g0_z hc_z
        replace hc_z := rn_getM (x := 2) (am_cur_of (i := (68, 3, .getfield 25, (4, 6, 415), 0)) (by decide +kernel)) D300 hc_z
        replace hc_z := rn_getR (x := 9) (am_cur_of (i := (71, 3, .getfield 229, (1, 14, 302), 0)) (by decide +kernel)) (by decide +kernel) hc_z
        replace hc_z := rn_aload_n (am_cur_of (i := (74, 1, .aload_n 0, (0, 0, 0), 0)) (by decide +kernel)) g0_z hc_z
        replace hc_z := rn_getM (x := 2) (am_cur_of (i := (75, 3, .getfield 25, (4, 6, 415), 0)) (by decide +kernel)) D300 hc_z
        replace hc_z := rn_getI (v := rg_v h 2 12) (am_cur_of (i := (78, 3, .getfield 220, (1, 12, 296), 0)) (by decide +kernel)) (by decide +kernel) ((rd_v q299_z (by omega)).trans ((rg_v_other (by omega)).trans ((rd_v q291_z (by omega)).trans ((rd_v q284_z (by omega)).trans ((rd_v q275_z (by omega)).trans (rfl)))))) hc_z
        replace hc_z := rn_aload_n (am_cur_of (i := (81, 1, .aload_n 0, (0, 0, 0), 0)) (by decide +kernel)) g0_z hc_z
        replace hc_z := rn_iconst (w := 1) (am_cur_of (i := (82, 1, .iconst 1, (0, 0, 0), 0)) (by decide +kernel)) (by decide) hc_z
        replace hc_z := rn_bipush (w := 100) (am_cur_of (i := (83, 2, .bipush 100, (0, 0, 0), 0)) (by decide +kernel)) (by decide) hc_z
        replace hc_z := rn_callV (M' := am_m30) (o := 44) (ar := [.int 100, .int 1]) (rest := [.int (rg_v h 2 12), .ref 9]) (L := lv_args 0 [.ref 44, .int 1, .int 100]) (am_cur_of (i := (85, 3, .invokevirtual 142, (30, 773, 3), 0)) (by decide +kernel)) rfl rfl rfl rfl hc_z
        obtain ⟨r301_z, h302_z, q303_z, hc_z⟩ := hc_z
        have q304_z := rd_of (a := 30) (by decide) rfl q303_z
        obtain ⟨v305_z, rfl, lv305_z, uv305_z⟩ := sd_30 (by decide) q303_z
        have D306 : h302_z 44 6 = .ref 2 := q304_z.2.trans D300
        replace hc_z : rn _ _ _ _ [.int v305_z, .int (rg_v h 2 12), .ref 9] _ _ _ := hc_z
        replace hc_z := rn_iastore (N := 3) (q := (rg_v h 2 12).toNatClampNeg) (am_cur_of (i := (88, 1, .iastore, (0, 0, 0), 0)) (by decide +kernel)) (by decide +kernel) rfl hc_z
        obtain ⟨p307_z, hc_z⟩ := hc_z
        replace hc_z := rn_aload_n (am_cur_of (i := (89, 1, .aload_n 0, (0, 0, 0), 0)) (by decide +kernel)) g0_z hc_z
        replace hc_z := rn_getM (x := 2) (am_cur_of (i := (90, 3, .getfield 25, (4, 6, 415), 0)) (by decide +kernel)) (show (am_up h302_z 9 ((rg_v h 2 12).toNatClampNeg) (.int v305_z)) 44 6 = .ref 2 from D306) hc_z
        replace hc_z := rn_getR (x := 10) (am_cur_of (i := (93, 3, .getfield 232, (1, 15, 305), 0)) (by decide +kernel)) (by decide +kernel) hc_z
        replace hc_z := rn_aload_n (am_cur_of (i := (96, 1, .aload_n 0, (0, 0, 0), 0)) (by decide +kernel)) g0_z hc_z
        replace hc_z := rn_getM (x := 2) (am_cur_of (i := (97, 3, .getfield 25, (4, 6, 415), 0)) (by decide +kernel)) (show (am_up h302_z 9 ((rg_v h 2 12).toNatClampNeg) (.int v305_z)) 44 6 = .ref 2 from D306) hc_z
        replace hc_z := rn_getI (v := rg_v h 2 12) (am_cur_of (i := (100, 3, .getfield 220, (1, 12, 296), 0)) (by decide +kernel)) (by decide +kernel) ((rg_v_other (by omega)).trans ((rd_v q304_z (by omega)).trans ((rd_v q299_z (by omega)).trans ((rg_v_other (by omega)).trans ((rd_v q291_z (by omega)).trans ((rd_v q284_z (by omega)).trans ((rd_v q275_z (by omega)).trans (rfl)))))))) hc_z
        replace hc_z := rn_aload_n (am_cur_of (i := (103, 1, .aload_n 0, (0, 0, 0), 0)) (by decide +kernel)) g0_z hc_z
        replace hc_z := rn_iconst (w := 1) (am_cur_of (i := (104, 1, .iconst 1, (0, 0, 0), 0)) (by decide +kernel)) (by decide) hc_z
        replace hc_z := rn_bipush (w := 99) (am_cur_of (i := (105, 2, .bipush 99, (0, 0, 0), 0)) (by decide +kernel)) (by decide) hc_z
        replace hc_z := rn_callV (M' := am_m30) (o := 44) (ar := [.int 99, .int 1]) (rest := [.int (rg_v h 2 12), .ref 10]) (L := lv_args 0 [.ref 44, .int 1, .int 99]) (am_cur_of (i := (107, 3, .invokevirtual 142, (30, 773, 3), 0)) (by decide +kernel)) rfl rfl rfl rfl hc_z
        obtain ⟨r308_z, h309_z, q310_z, hc_z⟩ := hc_z
        have q311_z := rd_of (a := 30) (by decide) rfl q310_z
        obtain ⟨v312_z, rfl, lv312_z, uv312_z⟩ := sd_30 (by decide) q310_z
        have D313 : h309_z 44 6 = .ref 2 := q311_z.2.trans (show (am_up h302_z 9 ((rg_v h 2 12).toNatClampNeg) (.int v305_z)) 44 6 = .ref 2 from ((up_ne (by omega)).trans (D306)))
        replace hc_z : rn _ _ _ _ [.int v312_z, .int (rg_v h 2 12), .ref 10] _ _ _ := hc_z
        replace hc_z := rn_iastore (N := 3) (q := (rg_v h 2 12).toNatClampNeg) (am_cur_of (i := (110, 1, .iastore, (0, 0, 0), 0)) (by decide +kernel)) (by decide +kernel) rfl hc_z
        obtain ⟨p314_z, hc_z⟩ := hc_z
        replace hc_z := rn_aload_n (am_cur_of (i := (111, 1, .aload_n 0, (0, 0, 0), 0)) (by decide +kernel)) g0_z hc_z
        replace hc_z := rn_getM (x := 2) (am_cur_of (i := (112, 3, .getfield 25, (4, 6, 415), 0)) (by decide +kernel)) (show (am_up h309_z 10 ((rg_v h 2 12).toNatClampNeg) (.int v312_z)) 44 6 = .ref 2 from D313) hc_z
        replace hc_z := rn_dup (am_cur_of (i := (115, 1, .dup, (0, 0, 0), 0)) (by decide +kernel)) hc_z
        replace hc_z := rn_getI (v := rg_v h 2 12) (am_cur_of (i := (116, 3, .getfield 220, (1, 12, 296), 0)) (by decide +kernel)) (by decide +kernel) ((rg_v_other (by omega)).trans ((rd_v q311_z (by omega)).trans ((rg_v_other (by omega)).trans ((rd_v q304_z (by omega)).trans ((rd_v q299_z (by omega)).trans ((rg_v_other (by omega)).trans ((rd_v q291_z (by omega)).trans ((rd_v q284_z (by omega)).trans ((rd_v q275_z (by omega)).trans (rfl)))))))))) hc_z
        replace hc_z := rn_iconst (w := 1) (am_cur_of (i := (119, 1, .iconst 1, (0, 0, 0), 0)) (by decide +kernel)) (by decide) hc_z
        replace hc_z := rn_iadd (w := (rg_v h 2 12) + 1) (am_cur_of (i := (120, 1, .iadd, (0, 0, 0), 0)) (by decide +kernel)) rfl hc_z
        replace hc_z := rn_put (am_cur_of (i := (121, 3, .putfield 220, (1, 12, 296), 0)) (by decide +kernel)) (by decide +kernel) hc_z
        replace hc_z := rn_vret (am_cur_of (i := (124, 1, .return_, (0, 0, 0), 0)) (by decide +kernel)) hc_z
        obtain ⟨e315_z, e316_z⟩ := hc_z
        replace e316_z := e316_z.symm
        subst e316_z
        refine ⟨?_, ((up_ne (by omega)).trans ((up_ne (by omega)).trans (D313)))⟩
        have ek : rg_v (am_up (am_up h309_z 10 ((rg_v h 2 12).toNatClampNeg) (.int v312_z)) 2 12 (.int ((rg_v h 2 12) + 1))) 2 12 = (rg_v h 2 12) + 1 := rg_v_self
        have gk : ((rg_v h 2 12) + 1).toInt = (rg_v h 2 12).toInt + 1 := ab_iadd (by rw [z1_z]; omega) (by rw [z1_z]; omega)
        have k2_z : rg_v (am_up (am_up h309_z 10 ((rg_v h 2 12).toNatClampNeg) (.int v312_z)) 2 12 (.int ((rg_v h 2 12) + 1))) 2 2 = rg_v h 2 2 := ((rg_v_other (by omega)).trans ((rg_v_other (by omega)).trans ((rd_v q311_z (by omega)).trans ((rg_v_other (by omega)).trans ((rd_v q304_z (by omega)).trans ((rd_v q299_z (by omega)).trans ((rg_v_other (by omega)).trans ((rd_v q291_z (by omega)).trans ((rd_v q284_z (by omega)).trans ((rd_v q275_z (by omega)).trans (rfl)))))))))))
        have k4_z : rg_v (am_up (am_up h309_z 10 ((rg_v h 2 12).toNatClampNeg) (.int v312_z)) 2 12 (.int ((rg_v h 2 12) + 1))) 2 4 = rg_v h 2 4 := ((rg_v_other (by omega)).trans ((rg_v_other (by omega)).trans ((rd_v q311_z (by omega)).trans ((rg_v_other (by omega)).trans ((rd_v q304_z (by omega)).trans ((rd_v q299_z (by omega)).trans ((rg_v_other (by omega)).trans ((rd_v q291_z (by omega)).trans ((rd_v q284_z (by omega)).trans ((rd_v q275_z (by omega)).trans (rfl)))))))))))
        have k9_z : rg_v (am_up (am_up h309_z 10 ((rg_v h 2 12).toNatClampNeg) (.int v312_z)) 2 12 (.int ((rg_v h 2 12) + 1))) 2 9 = rg_v h 2 9 := ((rg_v_other (by omega)).trans ((rg_v_other (by omega)).trans ((rd_v q311_z (by omega)).trans ((rg_v_other (by omega)).trans ((rd_v q304_z (by omega)).trans ((rd_v q299_z (by omega)).trans ((rg_v_other (by omega)).trans ((rd_v q291_z (by omega)).trans ((rd_v q284_z (by omega)).trans ((rd_v q275_z (by omega)).trans (rfl)))))))))))
        have f2_z : rg_v (am_up (am_up h309_z 10 ((rg_v h 2 12).toNatClampNeg) (.int v312_z)) 2 12 (.int ((rg_v h 2 12) + 1))) 9 (rg_v h 2 12).toNatClampNeg = v305_z := ((rg_v_other (by omega)).trans ((rg_v_other (by omega)).trans ((rd_v q311_z (by omega)).trans (rg_v_self))))
        have f3_z : rg_v (am_up (am_up h309_z 10 ((rg_v h 2 12).toNatClampNeg) (.int v312_z)) 2 12 (.int ((rg_v h 2 12) + 1))) 10 (rg_v h 2 12).toNatClampNeg = v312_z := ((rg_v_other (by omega)).trans (rg_v_self))
        have w6_z : pv6_z 2 (am_up (am_up h309_z 10 ((rg_v h 2 12).toNatClampNeg) (.int v312_z)) 2 12 (.int ((rg_v h 2 12) + 1))) := by
          intro t ht
          rw [ek, gk] at ht
          by_cases e : t = (rg_v h 2 12).toNatClampNeg
          · rw [e]
            show 1 ≤ (rg_v (am_up (am_up h309_z 10 ((rg_v h 2 12).toNatClampNeg) (.int v312_z)) 2 12 (.int ((rg_v h 2 12) + 1))) 9 _).toInt ∧ (rg_v (am_up (am_up h309_z 10 ((rg_v h 2 12).toNatClampNeg) (.int v312_z)) 2 12 (.int ((rg_v h 2 12) + 1))) 9 _).toInt ≤ 100 ∧ 1 ≤ (rg_v (am_up (am_up h309_z 10 ((rg_v h 2 12).toNatClampNeg) (.int v312_z)) 2 12 (.int ((rg_v h 2 12) + 1))) 10 _).toInt
            rw [f2_z, f3_z]
            omega
          · have eA : ∀ o, (2 + 7 ≤ o ∧ o ≤ 2 + 8) → rg_v (am_up (am_up h309_z 10 ((rg_v h 2 12).toNatClampNeg) (.int v312_z)) 2 12 (.int ((rg_v h 2 12) + 1))) o t = rg_v h o t := fun o q => ((rg_v_other (by omega)).trans ((rg_v_other (by omega)).trans ((rd_v q311_z (by omega)).trans ((rg_v_other (by omega)).trans ((rd_v q304_z (by omega)).trans ((rd_v q299_z (by omega)).trans ((rg_v_other (by omega)).trans ((rd_v q291_z (by omega)).trans ((rd_v q284_z (by omega)).trans ((rd_v q275_z (by omega)).trans (rfl)))))))))))
            rw [eA (2 + 7) (by omega), eA (2 + 8) (by omega)]
            exact v6_z t (by omega)
        exact ⟨pv1_e (fun o k q => ((rg_v_other (by omega)).trans ((rg_v_other (by omega)).trans ((rd_v q311_z (by omega)).trans ((rg_v_other (by omega)).trans ((rd_v q304_z (by omega)).trans ((rd_v q299_z (by omega)).trans ((rg_v_other (by omega)).trans ((rd_v q291_z (by omega)).trans ((rd_v q284_z (by omega)).trans ((rd_v q275_z (by omega)).trans (rfl)))))))))))) v1_z, pv2_e VV.2.2.2.2.2.2 (fun o k q => ((rg_v_other (by omega)).trans ((rg_v_other (by omega)).trans ((rd_v q311_z (by omega)).trans ((rg_v_other (by omega)).trans ((rd_v q304_z (by omega)).trans ((rd_v q299_z (by omega)).trans ((rg_v_other (by omega)).trans ((rd_v q291_z (by omega)).trans ((rd_v q284_z (by omega)).trans ((rd_v q275_z (by omega)).trans (rfl)))))))))))) v2_z, pv3_e (fun o k q => ((rg_v_other (by omega)).trans ((rg_v_other (by omega)).trans ((rd_v q311_z (by omega)).trans ((rg_v_other (by omega)).trans ((rd_v q304_z (by omega)).trans ((rd_v q299_z (by omega)).trans ((rg_v_other (by omega)).trans ((rd_v q291_z (by omega)).trans ((rd_v q284_z (by omega)).trans ((rd_v q275_z (by omega)).trans (rfl)))))))))))) v3_z, pv4_e (fun o k q => ((rg_v_other (by omega)).trans ((rg_v_other (by omega)).trans ((rd_v q311_z (by omega)).trans ((rg_v_other (by omega)).trans ((rd_v q304_z (by omega)).trans ((rd_v q299_z (by omega)).trans ((rg_v_other (by omega)).trans ((rd_v q291_z (by omega)).trans ((rd_v q284_z (by omega)).trans ((rd_v q275_z (by omega)).trans (rfl)))))))))))) v4_z, pv5_e (fun o k q => ((rg_v_other (by omega)).trans ((rg_v_other (by omega)).trans ((rd_v q311_z (by omega)).trans ((rg_v_other (by omega)).trans ((rd_v q304_z (by omega)).trans ((rd_v q299_z (by omega)).trans ((rg_v_other (by omega)).trans ((rd_v q291_z (by omega)).trans ((rd_v q284_z (by omega)).trans ((rd_v q275_z (by omega)).trans (rfl)))))))))))) v5_z, w6_z, (by unfold pv7_z; rw [k2_z, k4_z, k9_z, ek]; omega)⟩
      · replace b294_z : ¬ v292_z = ((-1) : Int32) ∧ ¬ v292_z.toInt = ((-1) : Int32).toInt := b294_z
        replace hc_z := rn_aload_n (am_cur_of (i := (38, 1, .aload_n 0, (0, 0, 0), 0)) (by decide +kernel)) g0_z hc_z
        replace hc_z := rn_iconst (w := 3) (am_cur_of (i := (39, 1, .iconst 3, (0, 0, 0), 0)) (by decide +kernel)) (by decide) hc_z
        replace hc_z := rn_callV (M' := am_m29) (o := 44) (ar := [.int 3]) (rest := []) (L := lv_args 0 [.ref 44, .int 3]) (am_cur_of (i := (40, 3, .invokevirtual 108, (29, 769, 3), 0)) (by decide +kernel)) rfl rfl rfl rfl hc_z
        obtain ⟨r317_z, h318_z, q319_z, hc_z⟩ := hc_z
        have q320_z := rd_of (a := 29) (by decide) rfl q319_z
        have vo := rn_void rfl q319_z
        subst vo
        have D321 : h318_z 44 6 = .ref 2 := q320_z.2.trans D293
        replace hc_z : rn _ _ _ _ [] _ _ _ := hc_z
        replace hc_z := rn_vret (am_cur_of (i := (43, 1, .return_, (0, 0, 0), 0)) (by decide +kernel)) hc_z
        obtain ⟨e322_z, e323_z⟩ := hc_z
        replace e323_z := e323_z.symm
        subst e323_z
        refine ⟨?_, D321⟩
        exact ⟨pv1_e (fun o k q => ((rd_v q320_z (by omega)).trans ((rd_v q291_z (by omega)).trans ((rd_v q284_z (by omega)).trans ((rd_v q275_z (by omega)).trans (rfl)))))) v1_z, pv2_e VV.2.2.2.2.2.2 (fun o k q => ((rd_v q320_z (by omega)).trans ((rd_v q291_z (by omega)).trans ((rd_v q284_z (by omega)).trans ((rd_v q275_z (by omega)).trans (rfl)))))) v2_z, pv3_e (fun o k q => ((rd_v q320_z (by omega)).trans ((rd_v q291_z (by omega)).trans ((rd_v q284_z (by omega)).trans ((rd_v q275_z (by omega)).trans (rfl)))))) v3_z, pv4_e (fun o k q => ((rd_v q320_z (by omega)).trans ((rd_v q291_z (by omega)).trans ((rd_v q284_z (by omega)).trans ((rd_v q275_z (by omega)).trans (rfl)))))) v4_z, pv5_e (fun o k q => ((rd_v q320_z (by omega)).trans ((rd_v q291_z (by omega)).trans ((rd_v q284_z (by omega)).trans ((rd_v q275_z (by omega)).trans (rfl)))))) v5_z, pv6_e (fun o k q => ((rd_v q320_z (by omega)).trans ((rd_v q291_z (by omega)).trans ((rd_v q284_z (by omega)).trans ((rd_v q275_z (by omega)).trans (rfl)))))) v6_z, pv7_e (fun o k q => ((rd_v q320_z (by omega)).trans ((rd_v q291_z (by omega)).trans ((rd_v q284_z (by omega)).trans ((rd_v q275_z (by omega)).trans (rfl)))))) VV.2.2.2.2.2.2⟩
    · replace b287_z : v285_z = (0 : Int32) ∧ v285_z.toInt = (0 : Int32).toInt := b287_z
      replace hc_z := rn_vret (am_cur_of (i := (22, 1, .return_, (0, 0, 0), 0)) (by decide +kernel)) hc_z
      obtain ⟨e324_z, e325_z⟩ := hc_z
      replace e325_z := e325_z.symm
      subst e325_z
      refine ⟨?_, D286⟩
      exact ⟨pv1_e (fun o k q => ((rd_v q284_z (by omega)).trans ((rd_v q275_z (by omega)).trans (rfl)))) v1_z, pv2_e VV.2.2.2.2.2.2 (fun o k q => ((rd_v q284_z (by omega)).trans ((rd_v q275_z (by omega)).trans (rfl)))) v2_z, pv3_e (fun o k q => ((rd_v q284_z (by omega)).trans ((rd_v q275_z (by omega)).trans (rfl)))) v3_z, pv4_e (fun o k q => ((rd_v q284_z (by omega)).trans ((rd_v q275_z (by omega)).trans (rfl)))) v4_z, pv5_e (fun o k q => ((rd_v q284_z (by omega)).trans ((rd_v q275_z (by omega)).trans (rfl)))) v5_z, pv6_e (fun o k q => ((rd_v q284_z (by omega)).trans ((rd_v q275_z (by omega)).trans (rfl)))) v6_z, pv7_e (fun o k q => ((rd_v q284_z (by omega)).trans ((rd_v q275_z (by omega)).trans (rfl)))) VV.2.2.2.2.2.2⟩
theorem sd_40_2 {n : Nat} {r : Option Value} {h h' : am_H} (D : h 44 6 = .ref 2) (V : pv 2 h) (hc_z : rn n am_m40 0 (lv_args 0 [.ref 44]) [] h r h') : pv 2 h' ∧ h' 44 6 = .ref 2 := by
  have z0_z : (0 : Int32).toInt = 0 := by decide
  have z999_z : (999 : Int32).toInt = 999 := by decide
  have g0_z : am_get (lv_args 0 [.ref 44]) 0 = some (.ref 44) := rfl
  have VV := V
  obtain ⟨v1_z, v2_z, v3_z, v4_z, v5_z, v6_z, ⟨n0_z, n4_z⟩, ⟨t0_z, t8_z⟩, ⟨l0_z, l6_z⟩, ⟨r0_z, r3_z⟩⟩ := V
  replace hc_z := rn_aload_n (am_cur_of (i := (0, 1, .aload_n 0, (0, 0, 0), 0)) (by decide +kernel)) g0_z hc_z
  replace hc_z := rn_bipush (w := 6) (am_cur_of (i := (1, 2, .bipush 6, (0, 0, 0), 0)) (by decide +kernel)) (by decide) hc_z
  replace hc_z := rn_callV (M' := am_m28) (o := 44) (ar := [.int 6]) (rest := []) (L := lv_args 0 [.ref 44, .int 6]) (am_cur_of (i := (3, 3, .invokevirtual 139, (28, 765, 3), 0)) (by decide +kernel)) rfl rfl rfl rfl hc_z
  obtain ⟨r326_z, h327_z, q328_z, hc_z⟩ := hc_z
  have q329_z := rd_of (a := 28) (by decide) rfl q328_z
  have vo := rn_void rfl q328_z
  subst vo
  have D330 : h327_z 44 6 = .ref 2 := q329_z.2.trans D
  replace hc_z : rn _ _ _ _ [] _ _ _ := hc_z
  replace hc_z := rn_aload_n (am_cur_of (i := (6, 1, .aload_n 0, (0, 0, 0), 0)) (by decide +kernel)) g0_z hc_z
  replace hc_z := rn_getM (x := 2) (am_cur_of (i := (7, 3, .getfield 25, (4, 6, 415), 0)) (by decide +kernel)) D330 hc_z
  replace hc_z := rn_aload_n (am_cur_of (i := (10, 1, .aload_n 0, (0, 0, 0), 0)) (by decide +kernel)) g0_z hc_z
  replace hc_z := rn_iconst (w := 0) (am_cur_of (i := (11, 1, .iconst 0, (0, 0, 0), 0)) (by decide +kernel)) (by decide) hc_z
  replace hc_z := rn_sipush (w := 999) (am_cur_of (i := (12, 3, .sipush 999, (0, 0, 0), 0)) (by decide +kernel)) (by decide) hc_z
  replace hc_z := rn_callV (M' := am_m30) (o := 44) (ar := [.int 999, .int 0]) (rest := [.ref 2]) (L := lv_args 0 [.ref 44, .int 0, .int 999]) (am_cur_of (i := (15, 3, .invokevirtual 142, (30, 773, 3), 0)) (by decide +kernel)) rfl rfl rfl rfl hc_z
  obtain ⟨r331_z, h332_z, q333_z, hc_z⟩ := hc_z
  have q334_z := rd_of (a := 30) (by decide) rfl q333_z
  obtain ⟨v335_z, rfl, lv335_z, uv335_z⟩ := sd_30 (by decide) q333_z
  have D336 : h332_z 44 6 = .ref 2 := q334_z.2.trans D330
  replace hc_z : rn _ _ _ _ [.int v335_z, .ref 2] _ _ _ := hc_z
  replace hc_z := rn_put (am_cur_of (i := (18, 3, .putfield 235, (1, 16, 307), 0)) (by decide +kernel)) (by decide +kernel) hc_z
  replace hc_z := rn_vret (am_cur_of (i := (21, 1, .return_, (0, 0, 0), 0)) (by decide +kernel)) hc_z
  obtain ⟨e337_z, e338_z⟩ := hc_z
  replace e338_z := e338_z.symm
  subst e338_z
  refine ⟨?_, ((up_ne (by omega)).trans (D336))⟩
  exact ⟨pv1_e (fun o k q => ((rg_v_other (by omega)).trans ((rd_v q334_z (by omega)).trans ((rd_v q329_z (by omega)).trans (rfl))))) v1_z, pv2_e VV.2.2.2.2.2.2 (fun o k q => ((rg_v_other (by omega)).trans ((rd_v q334_z (by omega)).trans ((rd_v q329_z (by omega)).trans (rfl))))) v2_z, pv3_e (fun o k q => ((rg_v_other (by omega)).trans ((rd_v q334_z (by omega)).trans ((rd_v q329_z (by omega)).trans (rfl))))) v3_z, pv4_e (fun o k q => ((rg_v_other (by omega)).trans ((rd_v q334_z (by omega)).trans ((rd_v q329_z (by omega)).trans (rfl))))) v4_z, pv5_e (fun o k q => ((rg_v_other (by omega)).trans ((rd_v q334_z (by omega)).trans ((rd_v q329_z (by omega)).trans (rfl))))) v5_z, pv6_e (fun o k q => ((rg_v_other (by omega)).trans ((rd_v q334_z (by omega)).trans ((rd_v q329_z (by omega)).trans (rfl))))) v6_z, pv7_e (fun o k q => ((rg_v_other (by omega)).trans ((rd_v q334_z (by omega)).trans ((rd_v q329_z (by omega)).trans (rfl))))) VV.2.2.2.2.2.2⟩
theorem sd_41_2 {n : Nat} {r : Option Value} {h h' : am_H} (D : h 44 6 = .ref 2) (V : pv 2 h) (hc_z : rn n am_m41 0 (lv_args 0 [.ref 44]) [] h r h') : pv 2 h' ∧ h' 44 6 = .ref 2 := by
  have z0_z : (0 : Int32).toInt = 0 := by decide
  have z99999_z : (99999 : Int32).toInt = 99999 := by decide
  have g0_z : am_get (lv_args 0 [.ref 44]) 0 = some (.ref 44) := rfl
  have VV := V
  obtain ⟨v1_z, v2_z, v3_z, v4_z, v5_z, v6_z, ⟨n0_z, n4_z⟩, ⟨t0_z, t8_z⟩, ⟨l0_z, l6_z⟩, ⟨r0_z, r3_z⟩⟩ := V
  replace hc_z := rn_aload_n (am_cur_of (i := (0, 1, .aload_n 0, (0, 0, 0), 0)) (by decide +kernel)) g0_z hc_z
  replace hc_z := rn_bipush (w := 7) (am_cur_of (i := (1, 2, .bipush 7, (0, 0, 0), 0)) (by decide +kernel)) (by decide) hc_z
  replace hc_z := rn_callV (M' := am_m28) (o := 44) (ar := [.int 7]) (rest := []) (L := lv_args 0 [.ref 44, .int 7]) (am_cur_of (i := (3, 3, .invokevirtual 139, (28, 765, 3), 0)) (by decide +kernel)) rfl rfl rfl rfl hc_z
  obtain ⟨r339_z, h340_z, q341_z, hc_z⟩ := hc_z
  have q342_z := rd_of (a := 28) (by decide) rfl q341_z
  have vo := rn_void rfl q341_z
  subst vo
  have D343 : h340_z 44 6 = .ref 2 := q342_z.2.trans D
  replace hc_z : rn _ _ _ _ [] _ _ _ := hc_z
  replace hc_z := rn_aload_n (am_cur_of (i := (6, 1, .aload_n 0, (0, 0, 0), 0)) (by decide +kernel)) g0_z hc_z
  replace hc_z := rn_getM (x := 2) (am_cur_of (i := (7, 3, .getfield 25, (4, 6, 415), 0)) (by decide +kernel)) D343 hc_z
  replace hc_z := rn_aload_n (am_cur_of (i := (10, 1, .aload_n 0, (0, 0, 0), 0)) (by decide +kernel)) g0_z hc_z
  replace hc_z := rn_iconst (w := 0) (am_cur_of (i := (11, 1, .iconst 0, (0, 0, 0), 0)) (by decide +kernel)) (by decide) hc_z
  replace hc_z := rn_ldc (w := 99999) (am_cur_of (i := (12, 2, .ldc 238, (0, 0, 821), 99999)) (by decide +kernel)) (by decide) hc_z
  replace hc_z := rn_callV (M' := am_m30) (o := 44) (ar := [.int 99999, .int 0]) (rest := [.ref 2]) (L := lv_args 0 [.ref 44, .int 0, .int 99999]) (am_cur_of (i := (14, 3, .invokevirtual 142, (30, 773, 3), 0)) (by decide +kernel)) rfl rfl rfl rfl hc_z
  obtain ⟨r344_z, h345_z, q346_z, hc_z⟩ := hc_z
  have q347_z := rd_of (a := 30) (by decide) rfl q346_z
  obtain ⟨v348_z, rfl, lv348_z, uv348_z⟩ := sd_30 (by decide) q346_z
  have D349 : h345_z 44 6 = .ref 2 := q347_z.2.trans D343
  replace hc_z : rn _ _ _ _ [.int v348_z, .ref 2] _ _ _ := hc_z
  replace hc_z := rn_put (am_cur_of (i := (17, 3, .putfield 239, (1, 17, 310), 0)) (by decide +kernel)) (by decide +kernel) hc_z
  replace hc_z := rn_vret (am_cur_of (i := (20, 1, .return_, (0, 0, 0), 0)) (by decide +kernel)) hc_z
  obtain ⟨e350_z, e351_z⟩ := hc_z
  replace e351_z := e351_z.symm
  subst e351_z
  refine ⟨?_, ((up_ne (by omega)).trans (D349))⟩
  exact ⟨pv1_e (fun o k q => ((rg_v_other (by omega)).trans ((rd_v q347_z (by omega)).trans ((rd_v q342_z (by omega)).trans (rfl))))) v1_z, pv2_e VV.2.2.2.2.2.2 (fun o k q => ((rg_v_other (by omega)).trans ((rd_v q347_z (by omega)).trans ((rd_v q342_z (by omega)).trans (rfl))))) v2_z, pv3_e (fun o k q => ((rg_v_other (by omega)).trans ((rd_v q347_z (by omega)).trans ((rd_v q342_z (by omega)).trans (rfl))))) v3_z, pv4_e (fun o k q => ((rg_v_other (by omega)).trans ((rd_v q347_z (by omega)).trans ((rd_v q342_z (by omega)).trans (rfl))))) v4_z, pv5_e (fun o k q => ((rg_v_other (by omega)).trans ((rd_v q347_z (by omega)).trans ((rd_v q342_z (by omega)).trans (rfl))))) v5_z, pv6_e (fun o k q => ((rg_v_other (by omega)).trans ((rd_v q347_z (by omega)).trans ((rd_v q342_z (by omega)).trans (rfl))))) v6_z, pv7_e (fun o k q => ((rg_v_other (by omega)).trans ((rd_v q347_z (by omega)).trans ((rd_v q342_z (by omega)).trans (rfl))))) VV.2.2.2.2.2.2⟩
theorem sd_27_23 {n : Nat} {r : Option Value} {h h' : am_H} (D : h 44 6 = .ref 23) (V : pv 23 h) (hc_z : rn n am_m27 0 (lv_args 0 [.ref 44]) [] h r h') : pv 23 h' ∧ h' 44 6 = .ref 23 := by
  have z0_z : (0 : Int32).toInt = 0 := by decide
  have z1_z : (1 : Int32).toInt = 1 := by decide
  have z4_z : (4 : Int32).toInt = 4 := by decide
  have z9999_z : (9999 : Int32).toInt = 9999 := by decide
  have g0_z : am_get (lv_args 0 [.ref 44]) 0 = some (.ref 44) := rfl
  have VV := V
  obtain ⟨v1_z, v2_z, v3_z, v4_z, v5_z, v6_z, ⟨n0_z, n4_z⟩, ⟨t0_z, t8_z⟩, ⟨l0_z, l6_z⟩, ⟨r0_z, r3_z⟩⟩ := V
  replace hc_z := rn_aload_n (am_cur_of (i := (0, 1, .aload_n 0, (0, 0, 0), 0)) (by decide +kernel)) g0_z hc_z
  replace hc_z := rn_iconst (w := 0) (am_cur_of (i := (1, 1, .iconst 0, (0, 0, 0), 0)) (by decide +kernel)) (by decide) hc_z
  replace hc_z := rn_callV (M' := am_m28) (o := 44) (ar := [.int 0]) (rest := []) (L := lv_args 0 [.ref 44, .int 0]) (am_cur_of (i := (2, 3, .invokevirtual 139, (28, 765, 3), 0)) (by decide +kernel)) rfl rfl rfl rfl hc_z
  obtain ⟨r352_z, h353_z, q354_z, hc_z⟩ := hc_z
  have q355_z := rd_of (a := 28) (by decide) rfl q354_z
  have vo := rn_void rfl q354_z
  subst vo
  have D356 : h353_z 44 6 = .ref 23 := q355_z.2.trans D
  replace hc_z : rn _ _ _ _ [] _ _ _ := hc_z
  replace hc_z := rn_aload_n (am_cur_of (i := (5, 1, .aload_n 0, (0, 0, 0), 0)) (by decide +kernel)) g0_z hc_z
  replace hc_z := rn_getM (x := 23) (am_cur_of (i := (6, 3, .getfield 25, (4, 6, 415), 0)) (by decide +kernel)) D356 hc_z
  replace hc_z := rn_aload_n (am_cur_of (i := (9, 1, .aload_n 0, (0, 0, 0), 0)) (by decide +kernel)) g0_z hc_z
  replace hc_z := rn_iconst (w := 1) (am_cur_of (i := (10, 1, .iconst 1, (0, 0, 0), 0)) (by decide +kernel)) (by decide) hc_z
  replace hc_z := rn_sipush (w := 9999) (am_cur_of (i := (11, 3, .sipush 9999, (0, 0, 0), 0)) (by decide +kernel)) (by decide) hc_z
  replace hc_z := rn_callV (M' := am_m30) (o := 44) (ar := [.int 9999, .int 1]) (rest := [.ref 23]) (L := lv_args 0 [.ref 44, .int 1, .int 9999]) (am_cur_of (i := (14, 3, .invokevirtual 142, (30, 773, 3), 0)) (by decide +kernel)) rfl rfl rfl rfl hc_z
  obtain ⟨r357_z, h358_z, q359_z, hc_z⟩ := hc_z
  have q360_z := rd_of (a := 30) (by decide) rfl q359_z
  obtain ⟨v361_z, rfl, lv361_z, uv361_z⟩ := sd_30 (by decide) q359_z
  have D362 : h358_z 44 6 = .ref 23 := q360_z.2.trans D356
  replace hc_z : rn _ _ _ _ [.int v361_z, .ref 23] _ _ _ := hc_z
  replace hc_z := rn_put (am_cur_of (i := (17, 3, .putfield 145, (1, 0, 250), 0)) (by decide +kernel)) (by decide +kernel) hc_z
  replace hc_z := rn_aload_n (am_cur_of (i := (20, 1, .aload_n 0, (0, 0, 0), 0)) (by decide +kernel)) g0_z hc_z
  replace hc_z := rn_getI (v := rg_v h358_z 44 1) (am_cur_of (i := (21, 3, .getfield 51, (4, 1, 408), 0)) (by decide +kernel)) (by decide +kernel) ((rg_v_other (by omega)).trans (rfl)) hc_z
  replace hc_z := rn_if (am_cur_of (i := (24, 3, .ifCond .ne 30, (26, 0, 0), 0)) (by decide +kernel)) hc_z
  rcases hc_z with ⟨b363_z, hc_z⟩ | ⟨b363_z, hc_z⟩
  · replace b363_z : ¬ (rg_v h358_z 44 1) = (0 : Int32) ∧ ¬ (rg_v h358_z 44 1).toInt = (0 : Int32).toInt := b363_z
    replace hc_z := rn_vret (am_cur_of (i := (54, 1, .return_, (0, 0, 0), 0)) (by decide +kernel)) hc_z
    obtain ⟨e364_z, e365_z⟩ := hc_z
    replace e365_z := e365_z.symm
    subst e365_z
    refine ⟨?_, ((up_ne (by omega)).trans (D362))⟩
    have e0_z : rg_v (am_up h358_z 23 0 (.int v361_z)) 23 0 = v361_z := rg_v_self
    have e1_z : rg_v (am_up h358_z 23 0 (.int v361_z)) 23 1 = rg_v h 23 1 := ((rg_v_other (by omega)).trans ((rd_v q360_z (by omega)).trans ((rd_v q355_z (by omega)).trans (rfl))))
    obtain ⟨w1_z, w2_z⟩ := v1_z
    exact ⟨(by unfold pv1_z; rw [e0_z, e1_z]; omega), pv2_e VV.2.2.2.2.2.2 (fun o k q => ((rg_v_other (by omega)).trans ((rd_v q360_z (by omega)).trans ((rd_v q355_z (by omega)).trans (rfl))))) v2_z, pv3_e (fun o k q => ((rg_v_other (by omega)).trans ((rd_v q360_z (by omega)).trans ((rd_v q355_z (by omega)).trans (rfl))))) v3_z, pv4_e (fun o k q => ((rg_v_other (by omega)).trans ((rd_v q360_z (by omega)).trans ((rd_v q355_z (by omega)).trans (rfl))))) v4_z, pv5_e (fun o k q => ((rg_v_other (by omega)).trans ((rd_v q360_z (by omega)).trans ((rd_v q355_z (by omega)).trans (rfl))))) v5_z, pv6_e (fun o k q => ((rg_v_other (by omega)).trans ((rd_v q360_z (by omega)).trans ((rd_v q355_z (by omega)).trans (rfl))))) v6_z, pv7_e (fun o k q => ((rg_v_other (by omega)).trans ((rd_v q360_z (by omega)).trans ((rd_v q355_z (by omega)).trans (rfl))))) VV.2.2.2.2.2.2⟩
  · replace b363_z : (rg_v h358_z 44 1) = (0 : Int32) ∧ (rg_v h358_z 44 1).toInt = (0 : Int32).toInt := b363_z
    replace hc_z := rn_aload_n (am_cur_of (i := (27, 1, .aload_n 0, (0, 0, 0), 0)) (by decide +kernel)) g0_z hc_z
    replace hc_z := rn_getI (v := rg_v h358_z 44 10) (am_cur_of (i := (28, 3, .getfield 60, (4, 10, 419), 0)) (by decide +kernel)) (by decide +kernel) ((rg_v_other (by omega)).trans (rfl)) hc_z
    replace hc_z := rn_iconst (w := 4) (am_cur_of (i := (31, 1, .iconst 4, (0, 0, 0), 0)) (by decide +kernel)) (by decide) hc_z
    replace hc_z := rn_cmp (am_cur_of (i := (32, 3, .if_icmp .ne 22, (26, 0, 0), 0)) (by decide +kernel)) hc_z
    rcases hc_z with ⟨b366_z, hc_z⟩ | ⟨b366_z, hc_z⟩
    · replace b366_z : ¬ (rg_v h358_z 44 10) = (4 : Int32) ∧ ¬ (rg_v h358_z 44 10).toInt = (4 : Int32).toInt := b366_z
      replace hc_z := rn_vret (am_cur_of (i := (54, 1, .return_, (0, 0, 0), 0)) (by decide +kernel)) hc_z
      obtain ⟨e367_z, e368_z⟩ := hc_z
      replace e368_z := e368_z.symm
      subst e368_z
      refine ⟨?_, ((up_ne (by omega)).trans (D362))⟩
      have e0_z : rg_v (am_up h358_z 23 0 (.int v361_z)) 23 0 = v361_z := rg_v_self
      have e1_z : rg_v (am_up h358_z 23 0 (.int v361_z)) 23 1 = rg_v h 23 1 := ((rg_v_other (by omega)).trans ((rd_v q360_z (by omega)).trans ((rd_v q355_z (by omega)).trans (rfl))))
      obtain ⟨w1_z, w2_z⟩ := v1_z
      exact ⟨(by unfold pv1_z; rw [e0_z, e1_z]; omega), pv2_e VV.2.2.2.2.2.2 (fun o k q => ((rg_v_other (by omega)).trans ((rd_v q360_z (by omega)).trans ((rd_v q355_z (by omega)).trans (rfl))))) v2_z, pv3_e (fun o k q => ((rg_v_other (by omega)).trans ((rd_v q360_z (by omega)).trans ((rd_v q355_z (by omega)).trans (rfl))))) v3_z, pv4_e (fun o k q => ((rg_v_other (by omega)).trans ((rd_v q360_z (by omega)).trans ((rd_v q355_z (by omega)).trans (rfl))))) v4_z, pv5_e (fun o k q => ((rg_v_other (by omega)).trans ((rd_v q360_z (by omega)).trans ((rd_v q355_z (by omega)).trans (rfl))))) v5_z, pv6_e (fun o k q => ((rg_v_other (by omega)).trans ((rd_v q360_z (by omega)).trans ((rd_v q355_z (by omega)).trans (rfl))))) v6_z, pv7_e (fun o k q => ((rg_v_other (by omega)).trans ((rd_v q360_z (by omega)).trans ((rd_v q355_z (by omega)).trans (rfl))))) VV.2.2.2.2.2.2⟩
    · replace b366_z : (rg_v h358_z 44 10) = (4 : Int32) ∧ (rg_v h358_z 44 10).toInt = (4 : Int32).toInt := b366_z
      replace hc_z := rn_aload_n (am_cur_of (i := (35, 1, .aload_n 0, (0, 0, 0), 0)) (by decide +kernel)) g0_z hc_z
      replace hc_z := rn_getM (x := 23) (am_cur_of (i := (36, 3, .getfield 25, (4, 6, 415), 0)) (by decide +kernel)) (show (am_up h358_z 23 0 (.int v361_z)) 44 6 = .ref 23 from D362) hc_z
      replace hc_z := rn_aload_n (am_cur_of (i := (39, 1, .aload_n 0, (0, 0, 0), 0)) (by decide +kernel)) g0_z hc_z
      replace hc_z := rn_iconst (w := 0) (am_cur_of (i := (40, 1, .iconst 0, (0, 0, 0), 0)) (by decide +kernel)) (by decide) hc_z
      replace hc_z := rn_aload_n (am_cur_of (i := (41, 1, .aload_n 0, (0, 0, 0), 0)) (by decide +kernel)) g0_z hc_z
      replace hc_z := rn_getM (x := 23) (am_cur_of (i := (42, 3, .getfield 25, (4, 6, 415), 0)) (by decide +kernel)) (show (am_up h358_z 23 0 (.int v361_z)) 44 6 = .ref 23 from D362) hc_z
      replace hc_z := rn_getI (v := v361_z) (am_cur_of (i := (45, 3, .getfield 145, (1, 0, 250), 0)) (by decide +kernel)) (by decide +kernel) rg_v_self hc_z
      replace hc_z := rn_callV (M' := am_m30) (o := 44) (ar := [.int v361_z, .int 0]) (rest := [.ref 23]) (L := lv_args 0 [.ref 44, .int 0, .int v361_z]) (am_cur_of (i := (48, 3, .invokevirtual 142, (30, 773, 3), 0)) (by decide +kernel)) rfl rfl rfl rfl hc_z
      obtain ⟨r369_z, h370_z, q371_z, hc_z⟩ := hc_z
      have q372_z := rd_of (a := 30) (by decide) rfl q371_z
      obtain ⟨v373_z, rfl, lv373_z, uv373_z⟩ := sd_30 (by omega) q371_z
      have D374 : h370_z 44 6 = .ref 23 := q372_z.2.trans (show (am_up h358_z 23 0 (.int v361_z)) 44 6 = .ref 23 from ((up_ne (by omega)).trans (D362)))
      replace hc_z : rn _ _ _ _ [.int v373_z, .ref 23] _ _ _ := hc_z
      replace hc_z := rn_put (am_cur_of (i := (51, 3, .putfield 148, (1, 1, 254), 0)) (by decide +kernel)) (by decide +kernel) hc_z
      replace hc_z := rn_vret (am_cur_of (i := (54, 1, .return_, (0, 0, 0), 0)) (by decide +kernel)) hc_z
      obtain ⟨e375_z, e376_z⟩ := hc_z
      replace e376_z := e376_z.symm
      subst e376_z
      refine ⟨?_, ((up_ne (by omega)).trans (D374))⟩
      have e0_z : rg_v (am_up h370_z 23 1 (.int v373_z)) 23 0 = v361_z := ((rg_v_other (by omega)).trans ((rd_v q372_z (by omega)).trans (rg_v_self)))
      have e1_z : rg_v (am_up h370_z 23 1 (.int v373_z)) 23 1 = v373_z := rg_v_self
      obtain ⟨w1_z, w2_z⟩ := v1_z
      exact ⟨(by unfold pv1_z; rw [e0_z, e1_z]; omega), pv2_e VV.2.2.2.2.2.2 (fun o k q => ((rg_v_other (by omega)).trans ((rd_v q372_z (by omega)).trans ((rg_v_other (by omega)).trans ((rd_v q360_z (by omega)).trans ((rd_v q355_z (by omega)).trans (rfl))))))) v2_z, pv3_e (fun o k q => ((rg_v_other (by omega)).trans ((rd_v q372_z (by omega)).trans ((rg_v_other (by omega)).trans ((rd_v q360_z (by omega)).trans ((rd_v q355_z (by omega)).trans (rfl))))))) v3_z, pv4_e (fun o k q => ((rg_v_other (by omega)).trans ((rd_v q372_z (by omega)).trans ((rg_v_other (by omega)).trans ((rd_v q360_z (by omega)).trans ((rd_v q355_z (by omega)).trans (rfl))))))) v4_z, pv5_e (fun o k q => ((rg_v_other (by omega)).trans ((rd_v q372_z (by omega)).trans ((rg_v_other (by omega)).trans ((rd_v q360_z (by omega)).trans ((rd_v q355_z (by omega)).trans (rfl))))))) v5_z, pv6_e (fun o k q => ((rg_v_other (by omega)).trans ((rd_v q372_z (by omega)).trans ((rg_v_other (by omega)).trans ((rd_v q360_z (by omega)).trans ((rd_v q355_z (by omega)).trans (rfl))))))) v6_z, pv7_e (fun o k q => ((rg_v_other (by omega)).trans ((rd_v q372_z (by omega)).trans ((rg_v_other (by omega)).trans ((rd_v q360_z (by omega)).trans ((rd_v q355_z (by omega)).trans (rfl))))))) VV.2.2.2.2.2.2⟩
theorem sd_31_23 {n : Nat} {r : Option Value} {h h' : am_H} (D : h 44 6 = .ref 23) (V : pv 23 h) (hc_z : rn n am_m31 0 (lv_args 0 [.ref 44]) [] h r h') : pv 23 h' ∧ h' 44 6 = .ref 23 := by
  have zm1_z : ((-1) : Int32).toInt = (-1) := by decide
  have z0_z : (0 : Int32).toInt = 0 := by decide
  have z1_z : (1 : Int32).toInt = 1 := by decide
  have z9_z : (9 : Int32).toInt = 9 := by decide
  have z20_z : (20 : Int32).toInt = 20 := by decide
  have z99_z : (99 : Int32).toInt = 99 := by decide
  have g0_z : am_get (lv_args 0 [.ref 44]) 0 = some (.ref 44) := rfl
  have VV := V
  obtain ⟨v1_z, v2_z, v3_z, v4_z, v5_z, v6_z, ⟨n0_z, n4_z⟩, ⟨t0_z, t8_z⟩, ⟨l0_z, l6_z⟩, ⟨r0_z, r3_z⟩⟩ := V
  replace hc_z := rn_aload_n (am_cur_of (i := (0, 1, .aload_n 0, (0, 0, 0), 0)) (by decide +kernel)) g0_z hc_z
  replace hc_z := rn_aload_n (am_cur_of (i := (1, 1, .aload_n 0, (0, 0, 0), 0)) (by decide +kernel)) g0_z hc_z
  replace hc_z := rn_getM (x := 23) (am_cur_of (i := (2, 3, .getfield 25, (4, 6, 415), 0)) (by decide +kernel)) D hc_z
  replace hc_z := rn_getI (v := rg_v h 23 2) (am_cur_of (i := (5, 3, .getfield 151, (1, 2, 259), 0)) (by decide +kernel)) (by decide +kernel) rfl hc_z
  replace hc_z := rn_iconst (w := 4) (am_cur_of (i := (8, 1, .iconst 4, (0, 0, 0), 0)) (by decide +kernel)) (by decide) hc_z
  replace hc_z := rn_callV (M' := am_m32) (o := 44) (ar := [.int 4, .int (rg_v h 23 2)]) (rest := []) (L := lv_args 0 [.ref 44, .int (rg_v h 23 2), .int 4]) (am_cur_of (i := (9, 3, .invokevirtual 154, (32, 781, 3), 0)) (by decide +kernel)) rfl rfl rfl rfl hc_z
  obtain ⟨r377_z, h378_z, q379_z, hc_z⟩ := hc_z
  have q380_z := rd_of (a := 32) (by decide) rfl q379_z
  obtain ⟨v381_z, rfl⟩ := rn_ret (M := am_m32) rfl (by decide) q379_z
  have D382 : h378_z 44 6 = .ref 23 := q380_z.2.trans D
  replace hc_z : rn _ _ _ _ [.int v381_z] _ _ _ := hc_z
  replace hc_z := rn_if (am_cur_of (i := (12, 3, .ifCond .eq 10, (10, 0, 0), 0)) (by decide +kernel)) hc_z
  rcases hc_z with ⟨b383_z, hc_z⟩ | ⟨b383_z, hc_z⟩
  · replace b383_z : v381_z = (0 : Int32) ∧ v381_z.toInt = (0 : Int32).toInt := b383_z
    replace hc_z := rn_vret (am_cur_of (i := (22, 1, .return_, (0, 0, 0), 0)) (by decide +kernel)) hc_z
    obtain ⟨e384_z, e385_z⟩ := hc_z
    replace e385_z := e385_z.symm
    subst e385_z
    refine ⟨?_, D382⟩
    exact ⟨pv1_e (fun o k q => ((rd_v q380_z (by omega)).trans (rfl))) v1_z, pv2_e VV.2.2.2.2.2.2 (fun o k q => ((rd_v q380_z (by omega)).trans (rfl))) v2_z, pv3_e (fun o k q => ((rd_v q380_z (by omega)).trans (rfl))) v3_z, pv4_e (fun o k q => ((rd_v q380_z (by omega)).trans (rfl))) v4_z, pv5_e (fun o k q => ((rd_v q380_z (by omega)).trans (rfl))) v5_z, pv6_e (fun o k q => ((rd_v q380_z (by omega)).trans (rfl))) v6_z, pv7_e (fun o k q => ((rd_v q380_z (by omega)).trans (rfl))) VV.2.2.2.2.2.2⟩
  · replace b383_z : ¬ v381_z = (0 : Int32) ∧ ¬ v381_z.toInt = (0 : Int32).toInt := b383_z
    replace hc_z := rn_aload_n (am_cur_of (i := (15, 1, .aload_n 0, (0, 0, 0), 0)) (by decide +kernel)) g0_z hc_z
    replace hc_z := rn_callV (M' := am_m33) (o := 44) (ar := []) (rest := []) (L := lv_args 0 [.ref 44]) (am_cur_of (i := (16, 3, .invokevirtual 158, (33, 785, 3), 0)) (by decide +kernel)) rfl rfl rfl rfl hc_z
    obtain ⟨r386_z, h387_z, q388_z, hc_z⟩ := hc_z
    have q389_z := rd_of (a := 33) (by decide) rfl q388_z
    obtain ⟨v390_z, rfl⟩ := rn_ret (M := am_m33) rfl (by decide) q388_z
    have D391 : h387_z 44 6 = .ref 23 := q389_z.2.trans D382
    replace hc_z : rn _ _ _ _ [.int v390_z] _ _ _ := hc_z
    replace hc_z := rn_if (am_cur_of (i := (19, 3, .ifCond .ne 4, (11, 0, 0), 0)) (by decide +kernel)) hc_z
    rcases hc_z with ⟨b392_z, hc_z⟩ | ⟨b392_z, hc_z⟩
    · replace b392_z : ¬ v390_z = (0 : Int32) ∧ ¬ v390_z.toInt = (0 : Int32).toInt := b392_z
      replace hc_z := rn_aload_n (am_cur_of (i := (23, 1, .aload_n 0, (0, 0, 0), 0)) (by decide +kernel)) g0_z hc_z
      replace hc_z := rn_getM (x := 23) (am_cur_of (i := (24, 3, .getfield 25, (4, 6, 415), 0)) (by decide +kernel)) D391 hc_z
      replace hc_z := rn_aload_n (am_cur_of (i := (27, 1, .aload_n 0, (0, 0, 0), 0)) (by decide +kernel)) g0_z hc_z
      replace hc_z := rn_getI (v := rg_v h387_z 44 11) (am_cur_of (i := (28, 3, .getfield 91, (4, 11, 420), 0)) (by decide +kernel)) (by decide +kernel) rfl hc_z
      replace hc_z := rn_callV (M' := am_m34) (o := 23) (ar := [.int (rg_v h387_z 44 11)]) (rest := []) (L := lv_args 0 [.ref 23, .int (rg_v h387_z 44 11)]) (am_cur_of (i := (31, 3, .invokevirtual 162, (34, 789, 3), 0)) (by decide +kernel)) rfl rfl rfl rfl hc_z
      obtain ⟨r393_z, h394_z, q395_z, hc_z⟩ := hc_z
      have q396_z := rd_of (a := 34) (by decide) rfl q395_z
      obtain ⟨v397_z, rfl⟩ := rn_ret (M := am_m34) rfl (by decide) q395_z
      have D398 : h394_z 44 6 = .ref 23 := q396_z.2.trans D391
      replace hc_z : rn _ _ _ _ [.int v397_z] _ _ _ := hc_z
      replace hc_z := rn_iconst (w := (-1)) (am_cur_of (i := (34, 1, .iconst (-1), (0, 0, 0), 0)) (by decide +kernel)) (by decide) hc_z
      replace hc_z := rn_cmp (am_cur_of (i := (35, 3, .if_icmp .eq 9, (22, 0, 0), 0)) (by decide +kernel)) hc_z
      rcases hc_z with ⟨b399_z, hc_z⟩ | ⟨b399_z, hc_z⟩
      · replace b399_z : v397_z = ((-1) : Int32) ∧ v397_z.toInt = ((-1) : Int32).toInt := b399_z
        replace hc_z := rn_aload_n (am_cur_of (i := (44, 1, .aload_n 0, (0, 0, 0), 0)) (by decide +kernel)) g0_z hc_z
        replace hc_z := rn_getM (x := 23) (am_cur_of (i := (45, 3, .getfield 25, (4, 6, 415), 0)) (by decide +kernel)) D398 hc_z
        replace hc_z := rn_getR (x := 24) (am_cur_of (i := (48, 3, .getfield 166, (1, 3, 265), 0)) (by decide +kernel)) (by decide +kernel) hc_z
        replace hc_z := rn_aload_n (am_cur_of (i := (51, 1, .aload_n 0, (0, 0, 0), 0)) (by decide +kernel)) g0_z hc_z
        replace hc_z := rn_getM (x := 23) (am_cur_of (i := (52, 3, .getfield 25, (4, 6, 415), 0)) (by decide +kernel)) D398 hc_z
        replace hc_z := rn_getI (v := rg_v h 23 2) (am_cur_of (i := (55, 3, .getfield 151, (1, 2, 259), 0)) (by decide +kernel)) (by decide +kernel) ((rd_v q396_z (by omega)).trans ((rd_v q389_z (by omega)).trans ((rd_v q380_z (by omega)).trans (rfl)))) hc_z
        replace hc_z := rn_aaload (s := "AirBed$Blower") (N := 4) (q := (rg_v h 23 2).toNatClampNeg) (am_cur_of (i := (58, 1, .aaload, (0, 0, 0), 0)) (by decide +kernel)) (by decide +kernel) rfl hc_z
        obtain ⟨p400_z, hc_z⟩ := hc_z
        rw [rp_bc23 (rn_G hc_z) p400_z.2] at hc_z
        replace hc_z := rn_astore_n (am_cur_of (i := (59, 1, .astore_n 1, (0, 0, 0), 0)) (by decide +kernel)) hc_z
        obtain ⟨_, s401_z, s402_z, g1_z, hc_z⟩ := hc_z
        replace g0_z := s401_z 0 _ (by decide) rfl g0_z
        clear s401_z s402_z
        replace hc_z := rn_aload_n (am_cur_of (i := (60, 1, .aload_n 1, (0, 0, 0), 0)) (by decide +kernel)) g1_z hc_z
        replace hc_z := rn_aload_n (am_cur_of (i := (61, 1, .aload_n 0, (0, 0, 0), 0)) (by decide +kernel)) g0_z hc_z
        replace hc_z := rn_getI (v := rg_v h394_z 44 11) (am_cur_of (i := (62, 3, .getfield 91, (4, 11, 420), 0)) (by decide +kernel)) (by decide +kernel) rfl hc_z
        replace hc_z := rn_put (am_cur_of (i := (65, 3, .putfield 170, (3, 0, 204), 0)) (by decide +kernel)) (by decide +kernel) hc_z
        replace hc_z := rn_aload_n (am_cur_of (i := (68, 1, .aload_n 0, (0, 0, 0), 0)) (by decide +kernel)) g0_z hc_z
        replace hc_z := rn_callV (M' := am_m19) (o := 44) (ar := []) (rest := []) (L := lv_args 0 [.ref 44]) (am_cur_of (i := (69, 3, .invokevirtual 57, (19, 727, 3), 0)) (by decide +kernel)) rfl rfl rfl rfl hc_z
        obtain ⟨r403_z, h404_z, q405_z, hc_z⟩ := hc_z
        have q406_z := rd_of (a := 19) (by decide) rfl q405_z
        have vo := rn_void rfl q405_z
        subst vo
        have D407 : h404_z 44 6 = .ref 23 := q406_z.2.trans (show (am_up h394_z (40 + (rg_v h 23 2).toNatClampNeg) 0 (.int (rg_v h394_z 44 11))) 44 6 = .ref 23 from ((up_ne (by omega)).trans (D398)))
        replace hc_z : rn _ _ _ _ [] _ _ _ := hc_z
        replace hc_z := rn_aload_n (am_cur_of (i := (72, 1, .aload_n 1, (0, 0, 0), 0)) (by decide +kernel)) g1_z hc_z
        replace hc_z := rn_aload_n (am_cur_of (i := (73, 1, .aload_n 0, (0, 0, 0), 0)) (by decide +kernel)) g0_z hc_z
        replace hc_z := rn_iconst (w := 1) (am_cur_of (i := (74, 1, .iconst 1, (0, 0, 0), 0)) (by decide +kernel)) (by decide) hc_z
        replace hc_z := rn_bipush (w := 99) (am_cur_of (i := (75, 2, .bipush 99, (0, 0, 0), 0)) (by decide +kernel)) (by decide) hc_z
        replace hc_z := rn_callV (M' := am_m30) (o := 44) (ar := [.int 99, .int 1]) (rest := [.ref (40 + (rg_v h 23 2).toNatClampNeg)]) (L := lv_args 0 [.ref 44, .int 1, .int 99]) (am_cur_of (i := (77, 3, .invokevirtual 142, (30, 773, 3), 0)) (by decide +kernel)) rfl rfl rfl rfl hc_z
        obtain ⟨r408_z, h409_z, q410_z, hc_z⟩ := hc_z
        have q411_z := rd_of (a := 30) (by decide) rfl q410_z
        obtain ⟨v412_z, rfl, lv412_z, uv412_z⟩ := sd_30 (by decide) q410_z
        have D413 : h409_z 44 6 = .ref 23 := q411_z.2.trans D407
        replace hc_z : rn _ _ _ _ [.int v412_z, .ref (40 + (rg_v h 23 2).toNatClampNeg)] _ _ _ := hc_z
        replace hc_z := rn_put (am_cur_of (i := (80, 3, .putfield 175, (3, 1, 206), 0)) (by decide +kernel)) (by decide +kernel) hc_z
        replace hc_z := rn_aload_n (am_cur_of (i := (83, 1, .aload_n 1, (0, 0, 0), 0)) (by decide +kernel)) g1_z hc_z
        replace hc_z := rn_aload_n (am_cur_of (i := (84, 1, .aload_n 0, (0, 0, 0), 0)) (by decide +kernel)) g0_z hc_z
        replace hc_z := rn_iconst (w := 0) (am_cur_of (i := (85, 1, .iconst 0, (0, 0, 0), 0)) (by decide +kernel)) (by decide) hc_z
        replace hc_z := rn_bipush (w := 20) (am_cur_of (i := (86, 2, .bipush 20, (0, 0, 0), 0)) (by decide +kernel)) (by decide) hc_z
        replace hc_z := rn_callV (M' := am_m30) (o := 44) (ar := [.int 20, .int 0]) (rest := [.ref (40 + (rg_v h 23 2).toNatClampNeg)]) (L := lv_args 0 [.ref 44, .int 0, .int 20]) (am_cur_of (i := (88, 3, .invokevirtual 142, (30, 773, 3), 0)) (by decide +kernel)) rfl rfl rfl rfl hc_z
        obtain ⟨r414_z, h415_z, q416_z, hc_z⟩ := hc_z
        have q417_z := rd_of (a := 30) (by decide) rfl q416_z
        obtain ⟨v418_z, rfl, lv418_z, uv418_z⟩ := sd_30 (by decide) q416_z
        have D419 : h415_z 44 6 = .ref 23 := q417_z.2.trans (show (am_up h409_z (40 + (rg_v h 23 2).toNatClampNeg) 1 (.int v412_z)) 44 6 = .ref 23 from ((up_ne (by omega)).trans (D413)))
        replace hc_z : rn _ _ _ _ [.int v418_z, .ref (40 + (rg_v h 23 2).toNatClampNeg)] _ _ _ := hc_z
        replace hc_z := rn_put (am_cur_of (i := (91, 3, .putfield 178, (3, 2, 208), 0)) (by decide +kernel)) (by decide +kernel) hc_z
        replace hc_z := rn_aload_n (am_cur_of (i := (94, 1, .aload_n 1, (0, 0, 0), 0)) (by decide +kernel)) g1_z hc_z
        replace hc_z := rn_aload_n (am_cur_of (i := (95, 1, .aload_n 0, (0, 0, 0), 0)) (by decide +kernel)) g0_z hc_z
        replace hc_z := rn_iconst (w := 1) (am_cur_of (i := (96, 1, .iconst 1, (0, 0, 0), 0)) (by decide +kernel)) (by decide) hc_z
        replace hc_z := rn_bipush (w := 20) (am_cur_of (i := (97, 2, .bipush 20, (0, 0, 0), 0)) (by decide +kernel)) (by decide) hc_z
        replace hc_z := rn_callV (M' := am_m30) (o := 44) (ar := [.int 20, .int 1]) (rest := [.ref (40 + (rg_v h 23 2).toNatClampNeg)]) (L := lv_args 0 [.ref 44, .int 1, .int 20]) (am_cur_of (i := (99, 3, .invokevirtual 142, (30, 773, 3), 0)) (by decide +kernel)) rfl rfl rfl rfl hc_z
        obtain ⟨r420_z, h421_z, q422_z, hc_z⟩ := hc_z
        have q423_z := rd_of (a := 30) (by decide) rfl q422_z
        obtain ⟨v424_z, rfl, lv424_z, uv424_z⟩ := sd_30 (by decide) q422_z
        have D425 : h421_z 44 6 = .ref 23 := q423_z.2.trans (show (am_up h415_z (40 + (rg_v h 23 2).toNatClampNeg) 2 (.int v418_z)) 44 6 = .ref 23 from ((up_ne (by omega)).trans (D419)))
        replace hc_z : rn _ _ _ _ [.int v424_z, .ref (40 + (rg_v h 23 2).toNatClampNeg)] _ _ _ := hc_z
        replace hc_z := rn_put (am_cur_of (i := (102, 3, .putfield 181, (3, 3, 211), 0)) (by decide +kernel)) (by decide +kernel) hc_z
        replace hc_z := rn_aload_n (am_cur_of (i := (105, 1, .aload_n 1, (0, 0, 0), 0)) (by decide +kernel)) g1_z hc_z
        replace hc_z := rn_aload_n (am_cur_of (i := (106, 1, .aload_n 0, (0, 0, 0), 0)) (by decide +kernel)) g0_z hc_z
        replace hc_z := rn_iconst (w := 1) (am_cur_of (i := (107, 1, .iconst 1, (0, 0, 0), 0)) (by decide +kernel)) (by decide) hc_z
        replace hc_z := rn_bipush (w := 9) (am_cur_of (i := (108, 2, .bipush 9, (0, 0, 0), 0)) (by decide +kernel)) (by decide) hc_z
        replace hc_z := rn_callV (M' := am_m30) (o := 44) (ar := [.int 9, .int 1]) (rest := [.ref (40 + (rg_v h 23 2).toNatClampNeg)]) (L := lv_args 0 [.ref 44, .int 1, .int 9]) (am_cur_of (i := (110, 3, .invokevirtual 142, (30, 773, 3), 0)) (by decide +kernel)) rfl rfl rfl rfl hc_z
        obtain ⟨r426_z, h427_z, q428_z, hc_z⟩ := hc_z
        have q429_z := rd_of (a := 30) (by decide) rfl q428_z
        obtain ⟨v430_z, rfl, lv430_z, uv430_z⟩ := sd_30 (by decide) q428_z
        have D431 : h427_z 44 6 = .ref 23 := q429_z.2.trans (show (am_up h421_z (40 + (rg_v h 23 2).toNatClampNeg) 3 (.int v424_z)) 44 6 = .ref 23 from ((up_ne (by omega)).trans (D425)))
        replace hc_z : rn _ _ _ _ [.int v430_z, .ref (40 + (rg_v h 23 2).toNatClampNeg)] _ _ _ := hc_z
        replace hc_z := rn_put (am_cur_of (i := (113, 3, .putfield 184, (3, 4, 216), 0)) (by decide +kernel)) (by decide +kernel) hc_z
        replace hc_z := rn_aload_n (am_cur_of (i := (116, 1, .aload_n 1, (0, 0, 0), 0)) (by decide +kernel)) g1_z hc_z
        replace hc_z := rn_aload_n (am_cur_of (i := (117, 1, .aload_n 0, (0, 0, 0), 0)) (by decide +kernel)) g0_z hc_z
        replace hc_z := rn_iconst (w := 0) (am_cur_of (i := (118, 1, .iconst 0, (0, 0, 0), 0)) (by decide +kernel)) (by decide) hc_z
        replace hc_z := rn_bipush (w := 99) (am_cur_of (i := (119, 2, .bipush 99, (0, 0, 0), 0)) (by decide +kernel)) (by decide) hc_z
        replace hc_z := rn_callV (M' := am_m30) (o := 44) (ar := [.int 99, .int 0]) (rest := [.ref (40 + (rg_v h 23 2).toNatClampNeg)]) (L := lv_args 0 [.ref 44, .int 0, .int 99]) (am_cur_of (i := (121, 3, .invokevirtual 142, (30, 773, 3), 0)) (by decide +kernel)) rfl rfl rfl rfl hc_z
        obtain ⟨r432_z, h433_z, q434_z, hc_z⟩ := hc_z
        have q435_z := rd_of (a := 30) (by decide) rfl q434_z
        obtain ⟨v436_z, rfl, lv436_z, uv436_z⟩ := sd_30 (by decide) q434_z
        have D437 : h433_z 44 6 = .ref 23 := q435_z.2.trans (show (am_up h427_z (40 + (rg_v h 23 2).toNatClampNeg) 4 (.int v430_z)) 44 6 = .ref 23 from ((up_ne (by omega)).trans (D431)))
        replace hc_z : rn _ _ _ _ [.int v436_z, .ref (40 + (rg_v h 23 2).toNatClampNeg)] _ _ _ := hc_z
        replace hc_z := rn_put (am_cur_of (i := (124, 3, .putfield 187, (3, 5, 218), 0)) (by decide +kernel)) (by decide +kernel) hc_z
        replace hc_z := rn_aload_n (am_cur_of (i := (127, 1, .aload_n 1, (0, 0, 0), 0)) (by decide +kernel)) g1_z hc_z
        replace hc_z := rn_aload_n (am_cur_of (i := (128, 1, .aload_n 0, (0, 0, 0), 0)) (by decide +kernel)) g0_z hc_z
        replace hc_z := rn_iconst (w := 0) (am_cur_of (i := (129, 1, .iconst 0, (0, 0, 0), 0)) (by decide +kernel)) (by decide) hc_z
        replace hc_z := rn_bipush (w := 9) (am_cur_of (i := (130, 2, .bipush 9, (0, 0, 0), 0)) (by decide +kernel)) (by decide) hc_z
        replace hc_z := rn_callV (M' := am_m30) (o := 44) (ar := [.int 9, .int 0]) (rest := [.ref (40 + (rg_v h 23 2).toNatClampNeg)]) (L := lv_args 0 [.ref 44, .int 0, .int 9]) (am_cur_of (i := (132, 3, .invokevirtual 142, (30, 773, 3), 0)) (by decide +kernel)) rfl rfl rfl rfl hc_z
        obtain ⟨r438_z, h439_z, q440_z, hc_z⟩ := hc_z
        have q441_z := rd_of (a := 30) (by decide) rfl q440_z
        obtain ⟨v442_z, rfl, lv442_z, uv442_z⟩ := sd_30 (by decide) q440_z
        have D443 : h439_z 44 6 = .ref 23 := q441_z.2.trans (show (am_up h433_z (40 + (rg_v h 23 2).toNatClampNeg) 5 (.int v436_z)) 44 6 = .ref 23 from ((up_ne (by omega)).trans (D437)))
        replace hc_z : rn _ _ _ _ [.int v442_z, .ref (40 + (rg_v h 23 2).toNatClampNeg)] _ _ _ := hc_z
        replace hc_z := rn_put (am_cur_of (i := (135, 3, .putfield 190, (3, 6, 220), 0)) (by decide +kernel)) (by decide +kernel) hc_z
        replace hc_z := rn_aload_n (am_cur_of (i := (138, 1, .aload_n 1, (0, 0, 0), 0)) (by decide +kernel)) g1_z hc_z
        replace hc_z := rn_aload_n (am_cur_of (i := (139, 1, .aload_n 0, (0, 0, 0), 0)) (by decide +kernel)) g0_z hc_z
        replace hc_z := rn_iconst (w := 0) (am_cur_of (i := (140, 1, .iconst 0, (0, 0, 0), 0)) (by decide +kernel)) (by decide) hc_z
        replace hc_z := rn_bipush (w := 99) (am_cur_of (i := (141, 2, .bipush 99, (0, 0, 0), 0)) (by decide +kernel)) (by decide) hc_z
        replace hc_z := rn_callV (M' := am_m30) (o := 44) (ar := [.int 99, .int 0]) (rest := [.ref (40 + (rg_v h 23 2).toNatClampNeg)]) (L := lv_args 0 [.ref 44, .int 0, .int 99]) (am_cur_of (i := (143, 3, .invokevirtual 142, (30, 773, 3), 0)) (by decide +kernel)) rfl rfl rfl rfl hc_z
        obtain ⟨r444_z, h445_z, q446_z, hc_z⟩ := hc_z
        have q447_z := rd_of (a := 30) (by decide) rfl q446_z
        obtain ⟨v448_z, rfl, lv448_z, uv448_z⟩ := sd_30 (by decide) q446_z
        have D449 : h445_z 44 6 = .ref 23 := q447_z.2.trans (show (am_up h439_z (40 + (rg_v h 23 2).toNatClampNeg) 6 (.int v442_z)) 44 6 = .ref 23 from ((up_ne (by omega)).trans (D443)))
        replace hc_z : rn _ _ _ _ [.int v448_z, .ref (40 + (rg_v h 23 2).toNatClampNeg)] _ _ _ := hc_z
        replace hc_z := rn_put (am_cur_of (i := (146, 3, .putfield 193, (3, 7, 221), 0)) (by decide +kernel)) (by decide +kernel) hc_z
        replace hc_z := rn_aload_n (am_cur_of (i := (149, 1, .aload_n 0, (0, 0, 0), 0)) (by decide +kernel)) g0_z hc_z
        replace hc_z := rn_getM (x := 23) (am_cur_of (i := (150, 3, .getfield 25, (4, 6, 415), 0)) (by decide +kernel)) (show (am_up h445_z (40 + (rg_v h 23 2).toNatClampNeg) 7 (.int v448_z)) 44 6 = .ref 23 from ((up_ne (by omega)).trans (D449))) hc_z
        replace hc_z := rn_dup (am_cur_of (i := (153, 1, .dup, (0, 0, 0), 0)) (by decide +kernel)) hc_z
        replace hc_z := rn_getI (v := rg_v h 23 2) (am_cur_of (i := (154, 3, .getfield 151, (1, 2, 259), 0)) (by decide +kernel)) (by decide +kernel) ((rg_v_other (by omega)).trans ((rd_v q447_z (by omega)).trans ((rg_v_other (by omega)).trans ((rd_v q441_z (by omega)).trans ((rg_v_other (by omega)).trans ((rd_v q435_z (by omega)).trans ((rg_v_other (by omega)).trans ((rd_v q429_z (by omega)).trans ((rg_v_other (by omega)).trans ((rd_v q423_z (by omega)).trans ((rg_v_other (by omega)).trans ((rd_v q417_z (by omega)).trans ((rg_v_other (by omega)).trans ((rd_v q411_z (by omega)).trans ((rd_v q406_z (by omega)).trans ((rg_v_other (by omega)).trans ((rd_v q396_z (by omega)).trans ((rd_v q389_z (by omega)).trans ((rd_v q380_z (by omega)).trans (rfl)))))))))))))))))))) hc_z
        replace hc_z := rn_iconst (w := 1) (am_cur_of (i := (157, 1, .iconst 1, (0, 0, 0), 0)) (by decide +kernel)) (by decide) hc_z
        replace hc_z := rn_iadd (w := (rg_v h 23 2) + 1) (am_cur_of (i := (158, 1, .iadd, (0, 0, 0), 0)) (by decide +kernel)) rfl hc_z
        replace hc_z := rn_put (am_cur_of (i := (159, 3, .putfield 151, (1, 2, 259), 0)) (by decide +kernel)) (by decide +kernel) hc_z
        replace hc_z := rn_vret (am_cur_of (i := (162, 1, .return_, (0, 0, 0), 0)) (by decide +kernel)) hc_z
        obtain ⟨e450_z, e451_z⟩ := hc_z
        replace e451_z := e451_z.symm
        subst e451_z
        refine ⟨?_, ((up_ne (by omega)).trans ((up_ne (by omega)).trans (D449)))⟩
        have ek : rg_v (am_up (am_up h445_z (40 + (rg_v h 23 2).toNatClampNeg) 7 (.int v448_z)) 23 2 (.int ((rg_v h 23 2) + 1))) 23 2 = (rg_v h 23 2) + 1 := rg_v_self
        have gk : ((rg_v h 23 2) + 1).toInt = (rg_v h 23 2).toInt + 1 := ab_iadd (by rw [z1_z]; omega) (by rw [z1_z]; omega)
        have k4_z : rg_v (am_up (am_up h445_z (40 + (rg_v h 23 2).toNatClampNeg) 7 (.int v448_z)) 23 2 (.int ((rg_v h 23 2) + 1))) 23 4 = rg_v h 23 4 := ((rg_v_other (by omega)).trans ((rg_v_other (by omega)).trans ((rd_v q447_z (by omega)).trans ((rg_v_other (by omega)).trans ((rd_v q441_z (by omega)).trans ((rg_v_other (by omega)).trans ((rd_v q435_z (by omega)).trans ((rg_v_other (by omega)).trans ((rd_v q429_z (by omega)).trans ((rg_v_other (by omega)).trans ((rd_v q423_z (by omega)).trans ((rg_v_other (by omega)).trans ((rd_v q417_z (by omega)).trans ((rg_v_other (by omega)).trans ((rd_v q411_z (by omega)).trans ((rd_v q406_z (by omega)).trans ((rg_v_other (by omega)).trans ((rd_v q396_z (by omega)).trans ((rd_v q389_z (by omega)).trans ((rd_v q380_z (by omega)).trans (rfl)))))))))))))))))))))
        have k9_z : rg_v (am_up (am_up h445_z (40 + (rg_v h 23 2).toNatClampNeg) 7 (.int v448_z)) 23 2 (.int ((rg_v h 23 2) + 1))) 23 9 = rg_v h 23 9 := ((rg_v_other (by omega)).trans ((rg_v_other (by omega)).trans ((rd_v q447_z (by omega)).trans ((rg_v_other (by omega)).trans ((rd_v q441_z (by omega)).trans ((rg_v_other (by omega)).trans ((rd_v q435_z (by omega)).trans ((rg_v_other (by omega)).trans ((rd_v q429_z (by omega)).trans ((rg_v_other (by omega)).trans ((rd_v q423_z (by omega)).trans ((rg_v_other (by omega)).trans ((rd_v q417_z (by omega)).trans ((rg_v_other (by omega)).trans ((rd_v q411_z (by omega)).trans ((rd_v q406_z (by omega)).trans ((rg_v_other (by omega)).trans ((rd_v q396_z (by omega)).trans ((rd_v q389_z (by omega)).trans ((rd_v q380_z (by omega)).trans (rfl)))))))))))))))))))))
        have k12_z : rg_v (am_up (am_up h445_z (40 + (rg_v h 23 2).toNatClampNeg) 7 (.int v448_z)) 23 2 (.int ((rg_v h 23 2) + 1))) 23 12 = rg_v h 23 12 := ((rg_v_other (by omega)).trans ((rg_v_other (by omega)).trans ((rd_v q447_z (by omega)).trans ((rg_v_other (by omega)).trans ((rd_v q441_z (by omega)).trans ((rg_v_other (by omega)).trans ((rd_v q435_z (by omega)).trans ((rg_v_other (by omega)).trans ((rd_v q429_z (by omega)).trans ((rg_v_other (by omega)).trans ((rd_v q423_z (by omega)).trans ((rg_v_other (by omega)).trans ((rd_v q417_z (by omega)).trans ((rg_v_other (by omega)).trans ((rd_v q411_z (by omega)).trans ((rd_v q406_z (by omega)).trans ((rg_v_other (by omega)).trans ((rd_v q396_z (by omega)).trans ((rd_v q389_z (by omega)).trans ((rd_v q380_z (by omega)).trans (rfl)))))))))))))))))))))
        have f1_z : rg_v (am_up (am_up h445_z (40 + (rg_v h 23 2).toNatClampNeg) 7 (.int v448_z)) 23 2 (.int ((rg_v h 23 2) + 1))) (40 + (rg_v h 23 2).toNatClampNeg) 1 = v412_z := ((rg_v_other (by omega)).trans ((rg_v_other (by omega)).trans ((rd_v q447_z (by omega)).trans ((rg_v_other (by omega)).trans ((rd_v q441_z (by omega)).trans ((rg_v_other (by omega)).trans ((rd_v q435_z (by omega)).trans ((rg_v_other (by omega)).trans ((rd_v q429_z (by omega)).trans ((rg_v_other (by omega)).trans ((rd_v q423_z (by omega)).trans ((rg_v_other (by omega)).trans ((rd_v q417_z (by omega)).trans (rg_v_self))))))))))))))
        have f3_z : rg_v (am_up (am_up h445_z (40 + (rg_v h 23 2).toNatClampNeg) 7 (.int v448_z)) 23 2 (.int ((rg_v h 23 2) + 1))) (40 + (rg_v h 23 2).toNatClampNeg) 3 = v424_z := ((rg_v_other (by omega)).trans ((rg_v_other (by omega)).trans ((rd_v q447_z (by omega)).trans ((rg_v_other (by omega)).trans ((rd_v q441_z (by omega)).trans ((rg_v_other (by omega)).trans ((rd_v q435_z (by omega)).trans ((rg_v_other (by omega)).trans ((rd_v q429_z (by omega)).trans (rg_v_self))))))))))
        have f4_z : rg_v (am_up (am_up h445_z (40 + (rg_v h 23 2).toNatClampNeg) 7 (.int v448_z)) 23 2 (.int ((rg_v h 23 2) + 1))) (40 + (rg_v h 23 2).toNatClampNeg) 4 = v430_z := ((rg_v_other (by omega)).trans ((rg_v_other (by omega)).trans ((rd_v q447_z (by omega)).trans ((rg_v_other (by omega)).trans ((rd_v q441_z (by omega)).trans ((rg_v_other (by omega)).trans ((rd_v q435_z (by omega)).trans (rg_v_self))))))))
        have w2_z : pv2_z 23 (am_up (am_up h445_z (40 + (rg_v h 23 2).toNatClampNeg) 7 (.int v448_z)) 23 2 (.int ((rg_v h 23 2) + 1))) := by
          intro b hb_z
          rw [ek, gk] at hb_z
          by_cases e : b = (rg_v h 23 2).toNatClampNeg
          · have eb : 23 + 17 + b = 40 + (rg_v h 23 2).toNatClampNeg := by omega
            rw [eb, f1_z, f3_z, f4_z]
            omega
          · have eA : ∀ k, rg_v (am_up (am_up h445_z (40 + (rg_v h 23 2).toNatClampNeg) 7 (.int v448_z)) 23 2 (.int ((rg_v h 23 2) + 1))) (23 + 17 + b) k = rg_v h (23 + 17 + b) k := fun k => ((rg_v_other (by omega)).trans ((rg_v_other (by omega)).trans ((rd_v q447_z (by omega)).trans ((rg_v_other (by omega)).trans ((rd_v q441_z (by omega)).trans ((rg_v_other (by omega)).trans ((rd_v q435_z (by omega)).trans ((rg_v_other (by omega)).trans ((rd_v q429_z (by omega)).trans ((rg_v_other (by omega)).trans ((rd_v q423_z (by omega)).trans ((rg_v_other (by omega)).trans ((rd_v q417_z (by omega)).trans ((rg_v_other (by omega)).trans ((rd_v q411_z (by omega)).trans ((rd_v q406_z (by omega)).trans ((rg_v_other (by omega)).trans ((rd_v q396_z (by omega)).trans ((rd_v q389_z (by omega)).trans ((rd_v q380_z (by omega)).trans (rfl)))))))))))))))))))))
            rw [eA 1, eA 3, eA 4]
            exact v2_z b (by omega)
        have w3_z : pv3_z 23 (am_up (am_up h445_z (40 + (rg_v h 23 2).toNatClampNeg) 7 (.int v448_z)) 23 2 (.int ((rg_v h 23 2) + 1))) := by
          intro t ht
          rw [k4_z] at ht
          have eA : ∀ o k, (23 + 2 ≤ o ∧ o ≤ 23 + 3) → rg_v (am_up (am_up h445_z (40 + (rg_v h 23 2).toNatClampNeg) 7 (.int v448_z)) 23 2 (.int ((rg_v h 23 2) + 1))) o k = rg_v h o k := fun o k q => ((rg_v_other (by omega)).trans ((rg_v_other (by omega)).trans ((rd_v q447_z (by omega)).trans ((rg_v_other (by omega)).trans ((rd_v q441_z (by omega)).trans ((rg_v_other (by omega)).trans ((rd_v q435_z (by omega)).trans ((rg_v_other (by omega)).trans ((rd_v q429_z (by omega)).trans ((rg_v_other (by omega)).trans ((rd_v q423_z (by omega)).trans ((rg_v_other (by omega)).trans ((rd_v q417_z (by omega)).trans ((rg_v_other (by omega)).trans ((rd_v q411_z (by omega)).trans ((rd_v q406_z (by omega)).trans ((rg_v_other (by omega)).trans ((rd_v q396_z (by omega)).trans ((rd_v q389_z (by omega)).trans ((rd_v q380_z (by omega)).trans (rfl)))))))))))))))))))))
          have q := v3_z t ht
          rw [ek, gk, eA (23 + 2) t (by omega), eA (23 + 3) t (by omega)]
          omega
        exact ⟨pv1_e (fun o k q => ((rg_v_other (by omega)).trans ((rg_v_other (by omega)).trans ((rd_v q447_z (by omega)).trans ((rg_v_other (by omega)).trans ((rd_v q441_z (by omega)).trans ((rg_v_other (by omega)).trans ((rd_v q435_z (by omega)).trans ((rg_v_other (by omega)).trans ((rd_v q429_z (by omega)).trans ((rg_v_other (by omega)).trans ((rd_v q423_z (by omega)).trans ((rg_v_other (by omega)).trans ((rd_v q417_z (by omega)).trans ((rg_v_other (by omega)).trans ((rd_v q411_z (by omega)).trans ((rd_v q406_z (by omega)).trans ((rg_v_other (by omega)).trans ((rd_v q396_z (by omega)).trans ((rd_v q389_z (by omega)).trans ((rd_v q380_z (by omega)).trans (rfl)))))))))))))))))))))) v1_z, w2_z, w3_z, pv4_e (fun o k q => ((rg_v_other (by omega)).trans ((rg_v_other (by omega)).trans ((rd_v q447_z (by omega)).trans ((rg_v_other (by omega)).trans ((rd_v q441_z (by omega)).trans ((rg_v_other (by omega)).trans ((rd_v q435_z (by omega)).trans ((rg_v_other (by omega)).trans ((rd_v q429_z (by omega)).trans ((rg_v_other (by omega)).trans ((rd_v q423_z (by omega)).trans ((rg_v_other (by omega)).trans ((rd_v q417_z (by omega)).trans ((rg_v_other (by omega)).trans ((rd_v q411_z (by omega)).trans ((rd_v q406_z (by omega)).trans ((rg_v_other (by omega)).trans ((rd_v q396_z (by omega)).trans ((rd_v q389_z (by omega)).trans ((rd_v q380_z (by omega)).trans (rfl)))))))))))))))))))))) v4_z, pv5_e (fun o k q => ((rg_v_other (by omega)).trans ((rg_v_other (by omega)).trans ((rd_v q447_z (by omega)).trans ((rg_v_other (by omega)).trans ((rd_v q441_z (by omega)).trans ((rg_v_other (by omega)).trans ((rd_v q435_z (by omega)).trans ((rg_v_other (by omega)).trans ((rd_v q429_z (by omega)).trans ((rg_v_other (by omega)).trans ((rd_v q423_z (by omega)).trans ((rg_v_other (by omega)).trans ((rd_v q417_z (by omega)).trans ((rg_v_other (by omega)).trans ((rd_v q411_z (by omega)).trans ((rd_v q406_z (by omega)).trans ((rg_v_other (by omega)).trans ((rd_v q396_z (by omega)).trans ((rd_v q389_z (by omega)).trans ((rd_v q380_z (by omega)).trans (rfl)))))))))))))))))))))) v5_z, pv6_e (fun o k q => ((rg_v_other (by omega)).trans ((rg_v_other (by omega)).trans ((rd_v q447_z (by omega)).trans ((rg_v_other (by omega)).trans ((rd_v q441_z (by omega)).trans ((rg_v_other (by omega)).trans ((rd_v q435_z (by omega)).trans ((rg_v_other (by omega)).trans ((rd_v q429_z (by omega)).trans ((rg_v_other (by omega)).trans ((rd_v q423_z (by omega)).trans ((rg_v_other (by omega)).trans ((rd_v q417_z (by omega)).trans ((rg_v_other (by omega)).trans ((rd_v q411_z (by omega)).trans ((rd_v q406_z (by omega)).trans ((rg_v_other (by omega)).trans ((rd_v q396_z (by omega)).trans ((rd_v q389_z (by omega)).trans ((rd_v q380_z (by omega)).trans (rfl)))))))))))))))))))))) v6_z, (by unfold pv7_z; rw [ek, k4_z, k9_z, k12_z]; omega)⟩
      · replace b399_z : ¬ v397_z = ((-1) : Int32) ∧ ¬ v397_z.toInt = ((-1) : Int32).toInt := b399_z
        replace hc_z := rn_aload_n (am_cur_of (i := (38, 1, .aload_n 0, (0, 0, 0), 0)) (by decide +kernel)) g0_z hc_z
        replace hc_z := rn_iconst (w := 3) (am_cur_of (i := (39, 1, .iconst 3, (0, 0, 0), 0)) (by decide +kernel)) (by decide) hc_z
        replace hc_z := rn_callV (M' := am_m29) (o := 44) (ar := [.int 3]) (rest := []) (L := lv_args 0 [.ref 44, .int 3]) (am_cur_of (i := (40, 3, .invokevirtual 108, (29, 769, 3), 0)) (by decide +kernel)) rfl rfl rfl rfl hc_z
        obtain ⟨r452_z, h453_z, q454_z, hc_z⟩ := hc_z
        have q455_z := rd_of (a := 29) (by decide) rfl q454_z
        have vo := rn_void rfl q454_z
        subst vo
        have D456 : h453_z 44 6 = .ref 23 := q455_z.2.trans D398
        replace hc_z : rn _ _ _ _ [] _ _ _ := hc_z
        replace hc_z := rn_vret (am_cur_of (i := (43, 1, .return_, (0, 0, 0), 0)) (by decide +kernel)) hc_z
        obtain ⟨e457_z, e458_z⟩ := hc_z
        replace e458_z := e458_z.symm
        subst e458_z
        refine ⟨?_, D456⟩
        exact ⟨pv1_e (fun o k q => ((rd_v q455_z (by omega)).trans ((rd_v q396_z (by omega)).trans ((rd_v q389_z (by omega)).trans ((rd_v q380_z (by omega)).trans (rfl)))))) v1_z, pv2_e VV.2.2.2.2.2.2 (fun o k q => ((rd_v q455_z (by omega)).trans ((rd_v q396_z (by omega)).trans ((rd_v q389_z (by omega)).trans ((rd_v q380_z (by omega)).trans (rfl)))))) v2_z, pv3_e (fun o k q => ((rd_v q455_z (by omega)).trans ((rd_v q396_z (by omega)).trans ((rd_v q389_z (by omega)).trans ((rd_v q380_z (by omega)).trans (rfl)))))) v3_z, pv4_e (fun o k q => ((rd_v q455_z (by omega)).trans ((rd_v q396_z (by omega)).trans ((rd_v q389_z (by omega)).trans ((rd_v q380_z (by omega)).trans (rfl)))))) v4_z, pv5_e (fun o k q => ((rd_v q455_z (by omega)).trans ((rd_v q396_z (by omega)).trans ((rd_v q389_z (by omega)).trans ((rd_v q380_z (by omega)).trans (rfl)))))) v5_z, pv6_e (fun o k q => ((rd_v q455_z (by omega)).trans ((rd_v q396_z (by omega)).trans ((rd_v q389_z (by omega)).trans ((rd_v q380_z (by omega)).trans (rfl)))))) v6_z, pv7_e (fun o k q => ((rd_v q455_z (by omega)).trans ((rd_v q396_z (by omega)).trans ((rd_v q389_z (by omega)).trans ((rd_v q380_z (by omega)).trans (rfl)))))) VV.2.2.2.2.2.2⟩
    · replace b392_z : v390_z = (0 : Int32) ∧ v390_z.toInt = (0 : Int32).toInt := b392_z
      replace hc_z := rn_vret (am_cur_of (i := (22, 1, .return_, (0, 0, 0), 0)) (by decide +kernel)) hc_z
      obtain ⟨e459_z, e460_z⟩ := hc_z
      replace e460_z := e460_z.symm
      subst e460_z
      refine ⟨?_, D391⟩
      exact ⟨pv1_e (fun o k q => ((rd_v q389_z (by omega)).trans ((rd_v q380_z (by omega)).trans (rfl)))) v1_z, pv2_e VV.2.2.2.2.2.2 (fun o k q => ((rd_v q389_z (by omega)).trans ((rd_v q380_z (by omega)).trans (rfl)))) v2_z, pv3_e (fun o k q => ((rd_v q389_z (by omega)).trans ((rd_v q380_z (by omega)).trans (rfl)))) v3_z, pv4_e (fun o k q => ((rd_v q389_z (by omega)).trans ((rd_v q380_z (by omega)).trans (rfl)))) v4_z, pv5_e (fun o k q => ((rd_v q389_z (by omega)).trans ((rd_v q380_z (by omega)).trans (rfl)))) v5_z, pv6_e (fun o k q => ((rd_v q389_z (by omega)).trans ((rd_v q380_z (by omega)).trans (rfl)))) v6_z, pv7_e (fun o k q => ((rd_v q389_z (by omega)).trans ((rd_v q380_z (by omega)).trans (rfl)))) VV.2.2.2.2.2.2⟩
theorem sd_35_23 {n : Nat} {r : Option Value} {h h' : am_H} (D : h 44 6 = .ref 23) (V : pv 23 h) (hc_z : rn n am_m35 0 (lv_args 0 [.ref 44]) [] h r h') : pv 23 h' ∧ h' 44 6 = .ref 23 := by
  have zm1_z : ((-1) : Int32).toInt = (-1) := by decide
  have z0_z : (0 : Int32).toInt = 0 := by decide
  have z1_z : (1 : Int32).toInt = 1 := by decide
  have z20_z : (20 : Int32).toInt = 20 := by decide
  have g0_z : am_get (lv_args 0 [.ref 44]) 0 = some (.ref 44) := rfl
  have VV := V
  obtain ⟨v1_z, v2_z, v3_z, v4_z, v5_z, v6_z, ⟨n0_z, n4_z⟩, ⟨t0_z, t8_z⟩, ⟨l0_z, l6_z⟩, ⟨r0_z, r3_z⟩⟩ := V
  replace hc_z := rn_aload_n (am_cur_of (i := (0, 1, .aload_n 0, (0, 0, 0), 0)) (by decide +kernel)) g0_z hc_z
  replace hc_z := rn_aload_n (am_cur_of (i := (1, 1, .aload_n 0, (0, 0, 0), 0)) (by decide +kernel)) g0_z hc_z
  replace hc_z := rn_getM (x := 23) (am_cur_of (i := (2, 3, .getfield 25, (4, 6, 415), 0)) (by decide +kernel)) D hc_z
  replace hc_z := rn_getI (v := rg_v h 23 4) (am_cur_of (i := (5, 3, .getfield 196, (1, 4, 269), 0)) (by decide +kernel)) (by decide +kernel) rfl hc_z
  replace hc_z := rn_bipush (w := 8) (am_cur_of (i := (8, 2, .bipush 8, (0, 0, 0), 0)) (by decide +kernel)) (by decide) hc_z
  replace hc_z := rn_callV (M' := am_m32) (o := 44) (ar := [.int 8, .int (rg_v h 23 4)]) (rest := []) (L := lv_args 0 [.ref 44, .int (rg_v h 23 4), .int 8]) (am_cur_of (i := (10, 3, .invokevirtual 154, (32, 781, 3), 0)) (by decide +kernel)) rfl rfl rfl rfl hc_z
  obtain ⟨r461_z, h462_z, q463_z, hc_z⟩ := hc_z
  have q464_z := rd_of (a := 32) (by decide) rfl q463_z
  obtain ⟨v465_z, rfl⟩ := rn_ret (M := am_m32) rfl (by decide) q463_z
  have D466 : h462_z 44 6 = .ref 23 := q464_z.2.trans D
  replace hc_z : rn _ _ _ _ [.int v465_z] _ _ _ := hc_z
  replace hc_z := rn_if (am_cur_of (i := (13, 3, .ifCond .eq 10, (10, 0, 0), 0)) (by decide +kernel)) hc_z
  rcases hc_z with ⟨b467_z, hc_z⟩ | ⟨b467_z, hc_z⟩
  · replace b467_z : v465_z = (0 : Int32) ∧ v465_z.toInt = (0 : Int32).toInt := b467_z
    replace hc_z := rn_vret (am_cur_of (i := (23, 1, .return_, (0, 0, 0), 0)) (by decide +kernel)) hc_z
    obtain ⟨e468_z, e469_z⟩ := hc_z
    replace e469_z := e469_z.symm
    subst e469_z
    refine ⟨?_, D466⟩
    exact ⟨pv1_e (fun o k q => ((rd_v q464_z (by omega)).trans (rfl))) v1_z, pv2_e VV.2.2.2.2.2.2 (fun o k q => ((rd_v q464_z (by omega)).trans (rfl))) v2_z, pv3_e (fun o k q => ((rd_v q464_z (by omega)).trans (rfl))) v3_z, pv4_e (fun o k q => ((rd_v q464_z (by omega)).trans (rfl))) v4_z, pv5_e (fun o k q => ((rd_v q464_z (by omega)).trans (rfl))) v5_z, pv6_e (fun o k q => ((rd_v q464_z (by omega)).trans (rfl))) v6_z, pv7_e (fun o k q => ((rd_v q464_z (by omega)).trans (rfl))) VV.2.2.2.2.2.2⟩
  · replace b467_z : ¬ v465_z = (0 : Int32) ∧ ¬ v465_z.toInt = (0 : Int32).toInt := b467_z
    replace hc_z := rn_aload_n (am_cur_of (i := (16, 1, .aload_n 0, (0, 0, 0), 0)) (by decide +kernel)) g0_z hc_z
    replace hc_z := rn_callV (M' := am_m33) (o := 44) (ar := []) (rest := []) (L := lv_args 0 [.ref 44]) (am_cur_of (i := (17, 3, .invokevirtual 158, (33, 785, 3), 0)) (by decide +kernel)) rfl rfl rfl rfl hc_z
    obtain ⟨r470_z, h471_z, q472_z, hc_z⟩ := hc_z
    have q473_z := rd_of (a := 33) (by decide) rfl q472_z
    obtain ⟨v474_z, rfl⟩ := rn_ret (M := am_m33) rfl (by decide) q472_z
    have D475 : h471_z 44 6 = .ref 23 := q473_z.2.trans D466
    replace hc_z : rn _ _ _ _ [.int v474_z] _ _ _ := hc_z
    replace hc_z := rn_if (am_cur_of (i := (20, 3, .ifCond .ne 4, (11, 0, 0), 0)) (by decide +kernel)) hc_z
    rcases hc_z with ⟨b476_z, hc_z⟩ | ⟨b476_z, hc_z⟩
    · replace b476_z : ¬ v474_z = (0 : Int32) ∧ ¬ v474_z.toInt = (0 : Int32).toInt := b476_z
      replace hc_z := rn_aload_n (am_cur_of (i := (24, 1, .aload_n 0, (0, 0, 0), 0)) (by decide +kernel)) g0_z hc_z
      replace hc_z := rn_getM (x := 23) (am_cur_of (i := (25, 3, .getfield 25, (4, 6, 415), 0)) (by decide +kernel)) D475 hc_z
      replace hc_z := rn_aload_n (am_cur_of (i := (28, 1, .aload_n 0, (0, 0, 0), 0)) (by decide +kernel)) g0_z hc_z
      replace hc_z := rn_getI (v := rg_v h471_z 44 11) (am_cur_of (i := (29, 3, .getfield 91, (4, 11, 420), 0)) (by decide +kernel)) (by decide +kernel) rfl hc_z
      replace hc_z := rn_callV (M' := am_m34) (o := 23) (ar := [.int (rg_v h471_z 44 11)]) (rest := []) (L := lv_args 0 [.ref 23, .int (rg_v h471_z 44 11)]) (am_cur_of (i := (32, 3, .invokevirtual 162, (34, 789, 3), 0)) (by decide +kernel)) rfl rfl rfl rfl hc_z
      obtain ⟨r477_z, h478_z, q479_z, hc_z⟩ := hc_z
      obtain ⟨yy, i2_z, rfl, hi2_z⟩ := rp_bn23 (nb := rg_v h 23 2) (((rd_v q473_z (by omega)).trans ((rd_v q464_z (by omega)).trans (rfl)))) n4_z q479_z
      replace yy := yy.symm
      subst yy
      have ir := rp_fr hi2_z
      replace hc_z : rn _ _ _ _ [.int i2_z] _ _ _ := hc_z
      replace hc_z := rn_istore_n (am_cur_of (i := (35, 1, .istore_n 1, (0, 0, 0), 0)) (by decide +kernel)) hc_z
      obtain ⟨_, s480_z, s481_z, g1_z, hc_z⟩ := hc_z
      replace g0_z := s480_z 0 _ (by decide) rfl g0_z
      clear s480_z s481_z
      replace hc_z := rn_iload_n (am_cur_of (i := (36, 1, .iload_n 1, (0, 0, 0), 0)) (by decide +kernel)) g1_z hc_z
      replace hc_z := rn_iconst (w := (-1)) (am_cur_of (i := (37, 1, .iconst (-1), (0, 0, 0), 0)) (by decide +kernel)) (by decide) hc_z
      replace hc_z := rn_cmp (am_cur_of (i := (38, 3, .if_icmp .ne 9, (24, 0, 0), 0)) (by decide +kernel)) hc_z
      rcases hc_z with ⟨b482_z, hc_z⟩ | ⟨b482_z, hc_z⟩
      · replace b482_z : ¬ i2_z = ((-1) : Int32) ∧ ¬ i2_z.toInt = ((-1) : Int32).toInt := b482_z
        replace hc_z := rn_aload_n (am_cur_of (i := (47, 1, .aload_n 0, (0, 0, 0), 0)) (by decide +kernel)) g0_z hc_z
        replace hc_z := rn_callV (M' := am_m19) (o := 44) (ar := []) (rest := []) (L := lv_args 0 [.ref 44]) (am_cur_of (i := (48, 3, .invokevirtual 57, (19, 727, 3), 0)) (by decide +kernel)) rfl rfl rfl rfl hc_z
        obtain ⟨r483_z, h484_z, q485_z, hc_z⟩ := hc_z
        have q486_z := rd_of (a := 19) (by decide) rfl q485_z
        have vo := rn_void rfl q485_z
        subst vo
        have D487 : h484_z 44 6 = .ref 23 := q486_z.2.trans D475
        replace hc_z : rn _ _ _ _ [] _ _ _ := hc_z
        replace hc_z := rn_aload_n (am_cur_of (i := (51, 1, .aload_n 0, (0, 0, 0), 0)) (by decide +kernel)) g0_z hc_z
        replace hc_z := rn_getM (x := 23) (am_cur_of (i := (52, 3, .getfield 25, (4, 6, 415), 0)) (by decide +kernel)) D487 hc_z
        replace hc_z := rn_getR (x := 25) (am_cur_of (i := (55, 3, .getfield 199, (1, 5, 272), 0)) (by decide +kernel)) (by decide +kernel) hc_z
        replace hc_z := rn_aload_n (am_cur_of (i := (58, 1, .aload_n 0, (0, 0, 0), 0)) (by decide +kernel)) g0_z hc_z
        replace hc_z := rn_getM (x := 23) (am_cur_of (i := (59, 3, .getfield 25, (4, 6, 415), 0)) (by decide +kernel)) D487 hc_z
        replace hc_z := rn_getI (v := rg_v h 23 4) (am_cur_of (i := (62, 3, .getfield 196, (1, 4, 269), 0)) (by decide +kernel)) (by decide +kernel) ((rd_v q486_z (by omega)).trans ((rd_v q473_z (by omega)).trans ((rd_v q464_z (by omega)).trans (rfl)))) hc_z
        replace hc_z := rn_iload_n (am_cur_of (i := (65, 1, .iload_n 1, (0, 0, 0), 0)) (by decide +kernel)) g1_z hc_z
        replace hc_z := rn_iastore (N := 8) (q := (rg_v h 23 4).toNatClampNeg) (am_cur_of (i := (66, 1, .iastore, (0, 0, 0), 0)) (by decide +kernel)) (by decide +kernel) rfl hc_z
        obtain ⟨p488_z, hc_z⟩ := hc_z
        replace hc_z := rn_aload_n (am_cur_of (i := (67, 1, .aload_n 0, (0, 0, 0), 0)) (by decide +kernel)) g0_z hc_z
        replace hc_z := rn_getM (x := 23) (am_cur_of (i := (68, 3, .getfield 25, (4, 6, 415), 0)) (by decide +kernel)) (show (am_up h484_z 25 ((rg_v h 23 4).toNatClampNeg) (.int i2_z)) 44 6 = .ref 23 from D487) hc_z
        replace hc_z := rn_getR (x := 26) (am_cur_of (i := (71, 3, .getfield 202, (1, 6, 275), 0)) (by decide +kernel)) (by decide +kernel) hc_z
        replace hc_z := rn_aload_n (am_cur_of (i := (74, 1, .aload_n 0, (0, 0, 0), 0)) (by decide +kernel)) g0_z hc_z
        replace hc_z := rn_getM (x := 23) (am_cur_of (i := (75, 3, .getfield 25, (4, 6, 415), 0)) (by decide +kernel)) (show (am_up h484_z 25 ((rg_v h 23 4).toNatClampNeg) (.int i2_z)) 44 6 = .ref 23 from D487) hc_z
        replace hc_z := rn_getI (v := rg_v h 23 4) (am_cur_of (i := (78, 3, .getfield 196, (1, 4, 269), 0)) (by decide +kernel)) (by decide +kernel) ((rg_v_other (by omega)).trans ((rd_v q486_z (by omega)).trans ((rd_v q473_z (by omega)).trans ((rd_v q464_z (by omega)).trans (rfl))))) hc_z
        replace hc_z := rn_aload_n (am_cur_of (i := (81, 1, .aload_n 0, (0, 0, 0), 0)) (by decide +kernel)) g0_z hc_z
        replace hc_z := rn_iconst (w := 1) (am_cur_of (i := (82, 1, .iconst 1, (0, 0, 0), 0)) (by decide +kernel)) (by decide) hc_z
        replace hc_z := rn_bipush (w := 20) (am_cur_of (i := (83, 2, .bipush 20, (0, 0, 0), 0)) (by decide +kernel)) (by decide) hc_z
        replace hc_z := rn_callV (M' := am_m30) (o := 44) (ar := [.int 20, .int 1]) (rest := [.int (rg_v h 23 4), .ref 26]) (L := lv_args 0 [.ref 44, .int 1, .int 20]) (am_cur_of (i := (85, 3, .invokevirtual 142, (30, 773, 3), 0)) (by decide +kernel)) rfl rfl rfl rfl hc_z
        obtain ⟨r489_z, h490_z, q491_z, hc_z⟩ := hc_z
        have q492_z := rd_of (a := 30) (by decide) rfl q491_z
        obtain ⟨v493_z, rfl, lv493_z, uv493_z⟩ := sd_30 (by decide) q491_z
        have D494 : h490_z 44 6 = .ref 23 := q492_z.2.trans (show (am_up h484_z 25 ((rg_v h 23 4).toNatClampNeg) (.int i2_z)) 44 6 = .ref 23 from ((up_ne (by omega)).trans (D487)))
        replace hc_z : rn _ _ _ _ [.int v493_z, .int (rg_v h 23 4), .ref 26] _ _ _ := hc_z
        replace hc_z := rn_iastore (N := 8) (q := (rg_v h 23 4).toNatClampNeg) (am_cur_of (i := (88, 1, .iastore, (0, 0, 0), 0)) (by decide +kernel)) (by decide +kernel) rfl hc_z
        obtain ⟨p495_z, hc_z⟩ := hc_z
        replace hc_z := rn_aload_n (am_cur_of (i := (89, 1, .aload_n 0, (0, 0, 0), 0)) (by decide +kernel)) g0_z hc_z
        replace hc_z := rn_getM (x := 23) (am_cur_of (i := (90, 3, .getfield 25, (4, 6, 415), 0)) (by decide +kernel)) (show (am_up h490_z 26 ((rg_v h 23 4).toNatClampNeg) (.int v493_z)) 44 6 = .ref 23 from D494) hc_z
        replace hc_z := rn_dup (am_cur_of (i := (93, 1, .dup, (0, 0, 0), 0)) (by decide +kernel)) hc_z
        replace hc_z := rn_getI (v := rg_v h 23 4) (am_cur_of (i := (94, 3, .getfield 196, (1, 4, 269), 0)) (by decide +kernel)) (by decide +kernel) ((rg_v_other (by omega)).trans ((rd_v q492_z (by omega)).trans ((rg_v_other (by omega)).trans ((rd_v q486_z (by omega)).trans ((rd_v q473_z (by omega)).trans ((rd_v q464_z (by omega)).trans (rfl))))))) hc_z
        replace hc_z := rn_iconst (w := 1) (am_cur_of (i := (97, 1, .iconst 1, (0, 0, 0), 0)) (by decide +kernel)) (by decide) hc_z
        replace hc_z := rn_iadd (w := (rg_v h 23 4) + 1) (am_cur_of (i := (98, 1, .iadd, (0, 0, 0), 0)) (by decide +kernel)) rfl hc_z
        replace hc_z := rn_put (am_cur_of (i := (99, 3, .putfield 196, (1, 4, 269), 0)) (by decide +kernel)) (by decide +kernel) hc_z
        replace hc_z := rn_vret (am_cur_of (i := (102, 1, .return_, (0, 0, 0), 0)) (by decide +kernel)) hc_z
        obtain ⟨e496_z, e497_z⟩ := hc_z
        replace e497_z := e497_z.symm
        subst e497_z
        refine ⟨?_, ((up_ne (by omega)).trans ((up_ne (by omega)).trans (D494)))⟩
        have ek : rg_v (am_up (am_up h490_z 26 ((rg_v h 23 4).toNatClampNeg) (.int v493_z)) 23 4 (.int ((rg_v h 23 4) + 1))) 23 4 = (rg_v h 23 4) + 1 := rg_v_self
        have gk : ((rg_v h 23 4) + 1).toInt = (rg_v h 23 4).toInt + 1 := ab_iadd (by rw [z1_z]; omega) (by rw [z1_z]; omega)
        have k2_z : rg_v (am_up (am_up h490_z 26 ((rg_v h 23 4).toNatClampNeg) (.int v493_z)) 23 4 (.int ((rg_v h 23 4) + 1))) 23 2 = rg_v h 23 2 := ((rg_v_other (by omega)).trans ((rg_v_other (by omega)).trans ((rd_v q492_z (by omega)).trans ((rg_v_other (by omega)).trans ((rd_v q486_z (by omega)).trans ((rd_v q473_z (by omega)).trans ((rd_v q464_z (by omega)).trans (rfl))))))))
        have k9_z : rg_v (am_up (am_up h490_z 26 ((rg_v h 23 4).toNatClampNeg) (.int v493_z)) 23 4 (.int ((rg_v h 23 4) + 1))) 23 9 = rg_v h 23 9 := ((rg_v_other (by omega)).trans ((rg_v_other (by omega)).trans ((rd_v q492_z (by omega)).trans ((rg_v_other (by omega)).trans ((rd_v q486_z (by omega)).trans ((rd_v q473_z (by omega)).trans ((rd_v q464_z (by omega)).trans (rfl))))))))
        have k12_z : rg_v (am_up (am_up h490_z 26 ((rg_v h 23 4).toNatClampNeg) (.int v493_z)) 23 4 (.int ((rg_v h 23 4) + 1))) 23 12 = rg_v h 23 12 := ((rg_v_other (by omega)).trans ((rg_v_other (by omega)).trans ((rd_v q492_z (by omega)).trans ((rg_v_other (by omega)).trans ((rd_v q486_z (by omega)).trans ((rd_v q473_z (by omega)).trans ((rd_v q464_z (by omega)).trans (rfl))))))))
        have f2_z : rg_v (am_up (am_up h490_z 26 ((rg_v h 23 4).toNatClampNeg) (.int v493_z)) 23 4 (.int ((rg_v h 23 4) + 1))) 25 (rg_v h 23 4).toNatClampNeg = i2_z := ((rg_v_other (by omega)).trans ((rg_v_other (by omega)).trans ((rd_v q492_z (by omega)).trans (rg_v_self))))
        have f3_z : rg_v (am_up (am_up h490_z 26 ((rg_v h 23 4).toNatClampNeg) (.int v493_z)) 23 4 (.int ((rg_v h 23 4) + 1))) 26 (rg_v h 23 4).toNatClampNeg = v493_z := ((rg_v_other (by omega)).trans (rg_v_self))
        have w3_z : pv3_z 23 (am_up (am_up h490_z 26 ((rg_v h 23 4).toNatClampNeg) (.int v493_z)) 23 4 (.int ((rg_v h 23 4) + 1))) := by
          intro t ht
          rw [ek, gk] at ht
          by_cases e : t = (rg_v h 23 4).toNatClampNeg
          · rw [e, k2_z]
            show 0 ≤ (rg_v (am_up (am_up h490_z 26 ((rg_v h 23 4).toNatClampNeg) (.int v493_z)) 23 4 (.int ((rg_v h 23 4) + 1))) 25 _).toInt ∧ (rg_v (am_up (am_up h490_z 26 ((rg_v h 23 4).toNatClampNeg) (.int v493_z)) 23 4 (.int ((rg_v h 23 4) + 1))) 25 _).toInt < _ ∧ 1 ≤ (rg_v (am_up (am_up h490_z 26 ((rg_v h 23 4).toNatClampNeg) (.int v493_z)) 23 4 (.int ((rg_v h 23 4) + 1))) 26 _).toInt
            rw [f2_z, f3_z]
            omega
          · have eA : ∀ o, (23 + 2 ≤ o ∧ o ≤ 23 + 3) → rg_v (am_up (am_up h490_z 26 ((rg_v h 23 4).toNatClampNeg) (.int v493_z)) 23 4 (.int ((rg_v h 23 4) + 1))) o t = rg_v h o t := fun o q => ((rg_v_other (by omega)).trans ((rg_v_other (by omega)).trans ((rd_v q492_z (by omega)).trans ((rg_v_other (by omega)).trans ((rd_v q486_z (by omega)).trans ((rd_v q473_z (by omega)).trans ((rd_v q464_z (by omega)).trans (rfl))))))))
            rw [k2_z, eA (23 + 2) (by omega), eA (23 + 3) (by omega)]
            exact v3_z t (by omega)
        exact ⟨pv1_e (fun o k q => ((rg_v_other (by omega)).trans ((rg_v_other (by omega)).trans ((rd_v q492_z (by omega)).trans ((rg_v_other (by omega)).trans ((rd_v q486_z (by omega)).trans ((rd_v q473_z (by omega)).trans ((rd_v q464_z (by omega)).trans (rfl))))))))) v1_z, pv2_e VV.2.2.2.2.2.2 (fun o k q => ((rg_v_other (by omega)).trans ((rg_v_other (by omega)).trans ((rd_v q492_z (by omega)).trans ((rg_v_other (by omega)).trans ((rd_v q486_z (by omega)).trans ((rd_v q473_z (by omega)).trans ((rd_v q464_z (by omega)).trans (rfl))))))))) v2_z, w3_z, pv4_e (fun o k q => ((rg_v_other (by omega)).trans ((rg_v_other (by omega)).trans ((rd_v q492_z (by omega)).trans ((rg_v_other (by omega)).trans ((rd_v q486_z (by omega)).trans ((rd_v q473_z (by omega)).trans ((rd_v q464_z (by omega)).trans (rfl))))))))) v4_z, pv5_e (fun o k q => ((rg_v_other (by omega)).trans ((rg_v_other (by omega)).trans ((rd_v q492_z (by omega)).trans ((rg_v_other (by omega)).trans ((rd_v q486_z (by omega)).trans ((rd_v q473_z (by omega)).trans ((rd_v q464_z (by omega)).trans (rfl))))))))) v5_z, pv6_e (fun o k q => ((rg_v_other (by omega)).trans ((rg_v_other (by omega)).trans ((rd_v q492_z (by omega)).trans ((rg_v_other (by omega)).trans ((rd_v q486_z (by omega)).trans ((rd_v q473_z (by omega)).trans ((rd_v q464_z (by omega)).trans (rfl))))))))) v6_z, (by unfold pv7_z; rw [k2_z, ek, k9_z, k12_z]; omega)⟩
      · replace b482_z : i2_z = ((-1) : Int32) ∧ i2_z.toInt = ((-1) : Int32).toInt := b482_z
        replace hc_z := rn_aload_n (am_cur_of (i := (41, 1, .aload_n 0, (0, 0, 0), 0)) (by decide +kernel)) g0_z hc_z
        replace hc_z := rn_iconst (w := 4) (am_cur_of (i := (42, 1, .iconst 4, (0, 0, 0), 0)) (by decide +kernel)) (by decide) hc_z
        replace hc_z := rn_callV (M' := am_m29) (o := 44) (ar := [.int 4]) (rest := []) (L := lv_args 0 [.ref 44, .int 4]) (am_cur_of (i := (43, 3, .invokevirtual 108, (29, 769, 3), 0)) (by decide +kernel)) rfl rfl rfl rfl hc_z
        obtain ⟨r498_z, h499_z, q500_z, hc_z⟩ := hc_z
        have q501_z := rd_of (a := 29) (by decide) rfl q500_z
        have vo := rn_void rfl q500_z
        subst vo
        have D502 : h499_z 44 6 = .ref 23 := q501_z.2.trans D475
        replace hc_z : rn _ _ _ _ [] _ _ _ := hc_z
        replace hc_z := rn_vret (am_cur_of (i := (46, 1, .return_, (0, 0, 0), 0)) (by decide +kernel)) hc_z
        obtain ⟨e503_z, e504_z⟩ := hc_z
        replace e504_z := e504_z.symm
        subst e504_z
        refine ⟨?_, D502⟩
        exact ⟨pv1_e (fun o k q => ((rd_v q501_z (by omega)).trans ((rd_v q473_z (by omega)).trans ((rd_v q464_z (by omega)).trans (rfl))))) v1_z, pv2_e VV.2.2.2.2.2.2 (fun o k q => ((rd_v q501_z (by omega)).trans ((rd_v q473_z (by omega)).trans ((rd_v q464_z (by omega)).trans (rfl))))) v2_z, pv3_e (fun o k q => ((rd_v q501_z (by omega)).trans ((rd_v q473_z (by omega)).trans ((rd_v q464_z (by omega)).trans (rfl))))) v3_z, pv4_e (fun o k q => ((rd_v q501_z (by omega)).trans ((rd_v q473_z (by omega)).trans ((rd_v q464_z (by omega)).trans (rfl))))) v4_z, pv5_e (fun o k q => ((rd_v q501_z (by omega)).trans ((rd_v q473_z (by omega)).trans ((rd_v q464_z (by omega)).trans (rfl))))) v5_z, pv6_e (fun o k q => ((rd_v q501_z (by omega)).trans ((rd_v q473_z (by omega)).trans ((rd_v q464_z (by omega)).trans (rfl))))) v6_z, pv7_e (fun o k q => ((rd_v q501_z (by omega)).trans ((rd_v q473_z (by omega)).trans ((rd_v q464_z (by omega)).trans (rfl))))) VV.2.2.2.2.2.2⟩
    · replace b476_z : v474_z = (0 : Int32) ∧ v474_z.toInt = (0 : Int32).toInt := b476_z
      replace hc_z := rn_vret (am_cur_of (i := (23, 1, .return_, (0, 0, 0), 0)) (by decide +kernel)) hc_z
      obtain ⟨e505_z, e506_z⟩ := hc_z
      replace e506_z := e506_z.symm
      subst e506_z
      refine ⟨?_, D475⟩
      exact ⟨pv1_e (fun o k q => ((rd_v q473_z (by omega)).trans ((rd_v q464_z (by omega)).trans (rfl)))) v1_z, pv2_e VV.2.2.2.2.2.2 (fun o k q => ((rd_v q473_z (by omega)).trans ((rd_v q464_z (by omega)).trans (rfl)))) v2_z, pv3_e (fun o k q => ((rd_v q473_z (by omega)).trans ((rd_v q464_z (by omega)).trans (rfl)))) v3_z, pv4_e (fun o k q => ((rd_v q473_z (by omega)).trans ((rd_v q464_z (by omega)).trans (rfl)))) v4_z, pv5_e (fun o k q => ((rd_v q473_z (by omega)).trans ((rd_v q464_z (by omega)).trans (rfl)))) v5_z, pv6_e (fun o k q => ((rd_v q473_z (by omega)).trans ((rd_v q464_z (by omega)).trans (rfl)))) v6_z, pv7_e (fun o k q => ((rd_v q473_z (by omega)).trans ((rd_v q464_z (by omega)).trans (rfl)))) VV.2.2.2.2.2.2⟩
theorem sd_36_23 {n : Nat} {r : Option Value} {h h' : am_H} (D : h 44 6 = .ref 23) (V : pv 23 h) (hc_z : rn n am_m36 0 (lv_args 0 [.ref 44]) [] h r h') : pv 23 h' ∧ h' 44 6 = .ref 23 := by
  have z1_z : (1 : Int32).toInt = 1 := by decide
  have z99_z : (99 : Int32).toInt = 99 := by decide
  have g0_z : am_get (lv_args 0 [.ref 44]) 0 = some (.ref 44) := rfl
  have VV := V
  obtain ⟨v1_z, v2_z, v3_z, v4_z, v5_z, v6_z, ⟨n0_z, n4_z⟩, ⟨t0_z, t8_z⟩, ⟨l0_z, l6_z⟩, ⟨r0_z, r3_z⟩⟩ := V
  replace hc_z := rn_aload_n (am_cur_of (i := (0, 1, .aload_n 0, (0, 0, 0), 0)) (by decide +kernel)) g0_z hc_z
  replace hc_z := rn_iconst (w := 3) (am_cur_of (i := (1, 1, .iconst 3, (0, 0, 0), 0)) (by decide +kernel)) (by decide) hc_z
  replace hc_z := rn_callV (M' := am_m28) (o := 44) (ar := [.int 3]) (rest := []) (L := lv_args 0 [.ref 44, .int 3]) (am_cur_of (i := (2, 3, .invokevirtual 139, (28, 765, 3), 0)) (by decide +kernel)) rfl rfl rfl rfl hc_z
  obtain ⟨r507_z, h508_z, q509_z, hc_z⟩ := hc_z
  have q510_z := rd_of (a := 28) (by decide) rfl q509_z
  have vo := rn_void rfl q509_z
  subst vo
  have D511 : h508_z 44 6 = .ref 23 := q510_z.2.trans D
  replace hc_z : rn _ _ _ _ [] _ _ _ := hc_z
  replace hc_z := rn_aload_n (am_cur_of (i := (5, 1, .aload_n 0, (0, 0, 0), 0)) (by decide +kernel)) g0_z hc_z
  replace hc_z := rn_getM (x := 23) (am_cur_of (i := (6, 3, .getfield 25, (4, 6, 415), 0)) (by decide +kernel)) D511 hc_z
  replace hc_z := rn_aload_n (am_cur_of (i := (9, 1, .aload_n 0, (0, 0, 0), 0)) (by decide +kernel)) g0_z hc_z
  replace hc_z := rn_iconst (w := 1) (am_cur_of (i := (10, 1, .iconst 1, (0, 0, 0), 0)) (by decide +kernel)) (by decide) hc_z
  replace hc_z := rn_bipush (w := 99) (am_cur_of (i := (11, 2, .bipush 99, (0, 0, 0), 0)) (by decide +kernel)) (by decide) hc_z
  replace hc_z := rn_callV (M' := am_m30) (o := 44) (ar := [.int 99, .int 1]) (rest := [.ref 23]) (L := lv_args 0 [.ref 44, .int 1, .int 99]) (am_cur_of (i := (13, 3, .invokevirtual 142, (30, 773, 3), 0)) (by decide +kernel)) rfl rfl rfl rfl hc_z
  obtain ⟨r512_z, h513_z, q514_z, hc_z⟩ := hc_z
  have q515_z := rd_of (a := 30) (by decide) rfl q514_z
  obtain ⟨v516_z, rfl, lv516_z, uv516_z⟩ := sd_30 (by decide) q514_z
  have D517 : h513_z 44 6 = .ref 23 := q515_z.2.trans D511
  replace hc_z : rn _ _ _ _ [.int v516_z, .ref 23] _ _ _ := hc_z
  replace hc_z := rn_put (am_cur_of (i := (16, 3, .putfield 205, (1, 7, 278), 0)) (by decide +kernel)) (by decide +kernel) hc_z
  replace hc_z := rn_aload_n (am_cur_of (i := (19, 1, .aload_n 0, (0, 0, 0), 0)) (by decide +kernel)) g0_z hc_z
  replace hc_z := rn_getM (x := 23) (am_cur_of (i := (20, 3, .getfield 25, (4, 6, 415), 0)) (by decide +kernel)) (show (am_up h513_z 23 7 (.int v516_z)) 44 6 = .ref 23 from D517) hc_z
  replace hc_z := rn_aload_n (am_cur_of (i := (23, 1, .aload_n 0, (0, 0, 0), 0)) (by decide +kernel)) g0_z hc_z
  replace hc_z := rn_iconst (w := 1) (am_cur_of (i := (24, 1, .iconst 1, (0, 0, 0), 0)) (by decide +kernel)) (by decide) hc_z
  replace hc_z := rn_bipush (w := 99) (am_cur_of (i := (25, 2, .bipush 99, (0, 0, 0), 0)) (by decide +kernel)) (by decide) hc_z
  replace hc_z := rn_callV (M' := am_m30) (o := 44) (ar := [.int 99, .int 1]) (rest := [.ref 23]) (L := lv_args 0 [.ref 44, .int 1, .int 99]) (am_cur_of (i := (27, 3, .invokevirtual 142, (30, 773, 3), 0)) (by decide +kernel)) rfl rfl rfl rfl hc_z
  obtain ⟨r518_z, h519_z, q520_z, hc_z⟩ := hc_z
  have q521_z := rd_of (a := 30) (by decide) rfl q520_z
  obtain ⟨v522_z, rfl, lv522_z, uv522_z⟩ := sd_30 (by decide) q520_z
  have D523 : h519_z 44 6 = .ref 23 := q521_z.2.trans (show (am_up h513_z 23 7 (.int v516_z)) 44 6 = .ref 23 from ((up_ne (by omega)).trans (D517)))
  replace hc_z : rn _ _ _ _ [.int v522_z, .ref 23] _ _ _ := hc_z
  replace hc_z := rn_put (am_cur_of (i := (30, 3, .putfield 208, (1, 8, 282), 0)) (by decide +kernel)) (by decide +kernel) hc_z
  replace hc_z := rn_vret (am_cur_of (i := (33, 1, .return_, (0, 0, 0), 0)) (by decide +kernel)) hc_z
  obtain ⟨e524_z, e525_z⟩ := hc_z
  replace e525_z := e525_z.symm
  subst e525_z
  refine ⟨?_, ((up_ne (by omega)).trans (D523))⟩
  have e0_z : rg_v (am_up h519_z 23 8 (.int v522_z)) 23 7 = v516_z := ((rg_v_other (by omega)).trans ((rd_v q521_z (by omega)).trans (rg_v_self)))
  have e1_z : rg_v (am_up h519_z 23 8 (.int v522_z)) 23 8 = v522_z := rg_v_self
  exact ⟨pv1_e (fun o k q => ((rg_v_other (by omega)).trans ((rd_v q521_z (by omega)).trans ((rg_v_other (by omega)).trans ((rd_v q515_z (by omega)).trans ((rd_v q510_z (by omega)).trans (rfl))))))) v1_z, pv2_e VV.2.2.2.2.2.2 (fun o k q => ((rg_v_other (by omega)).trans ((rd_v q521_z (by omega)).trans ((rg_v_other (by omega)).trans ((rd_v q515_z (by omega)).trans ((rd_v q510_z (by omega)).trans (rfl))))))) v2_z, pv3_e (fun o k q => ((rg_v_other (by omega)).trans ((rd_v q521_z (by omega)).trans ((rg_v_other (by omega)).trans ((rd_v q515_z (by omega)).trans ((rd_v q510_z (by omega)).trans (rfl))))))) v3_z, (by unfold pv4_z; rw [e0_z, e1_z]; exact Or.inr (by omega)), pv5_e (fun o k q => ((rg_v_other (by omega)).trans ((rd_v q521_z (by omega)).trans ((rg_v_other (by omega)).trans ((rd_v q515_z (by omega)).trans ((rd_v q510_z (by omega)).trans (rfl))))))) v5_z, pv6_e (fun o k q => ((rg_v_other (by omega)).trans ((rd_v q521_z (by omega)).trans ((rg_v_other (by omega)).trans ((rd_v q515_z (by omega)).trans ((rd_v q510_z (by omega)).trans (rfl))))))) v6_z, pv7_e (fun o k q => ((rg_v_other (by omega)).trans ((rd_v q521_z (by omega)).trans ((rg_v_other (by omega)).trans ((rd_v q515_z (by omega)).trans ((rd_v q510_z (by omega)).trans (rfl))))))) VV.2.2.2.2.2.2⟩
theorem sd_37_23 {n : Nat} {r : Option Value} {h h' : am_H} (D : h 44 6 = .ref 23) (V : pv 23 h) (hc_z : rn n am_m37 0 (lv_args 0 [.ref 44]) [] h r h') : pv 23 h' ∧ h' 44 6 = .ref 23 := by
  have z0_z : (0 : Int32).toInt = 0 := by decide
  have z1_z : (1 : Int32).toInt = 1 := by decide
  have z99_z : (99 : Int32).toInt = 99 := by decide
  have g0_z : am_get (lv_args 0 [.ref 44]) 0 = some (.ref 44) := rfl
  have VV := V
  obtain ⟨v1_z, v2_z, v3_z, v4_z, v5_z, v6_z, ⟨n0_z, n4_z⟩, ⟨t0_z, t8_z⟩, ⟨l0_z, l6_z⟩, ⟨r0_z, r3_z⟩⟩ := V
  replace hc_z := rn_aload_n (am_cur_of (i := (0, 1, .aload_n 0, (0, 0, 0), 0)) (by decide +kernel)) g0_z hc_z
  replace hc_z := rn_aload_n (am_cur_of (i := (1, 1, .aload_n 0, (0, 0, 0), 0)) (by decide +kernel)) g0_z hc_z
  replace hc_z := rn_getM (x := 23) (am_cur_of (i := (2, 3, .getfield 25, (4, 6, 415), 0)) (by decide +kernel)) D hc_z
  replace hc_z := rn_getI (v := rg_v h 23 9) (am_cur_of (i := (5, 3, .getfield 211, (1, 9, 286), 0)) (by decide +kernel)) (by decide +kernel) rfl hc_z
  replace hc_z := rn_bipush (w := 6) (am_cur_of (i := (8, 2, .bipush 6, (0, 0, 0), 0)) (by decide +kernel)) (by decide) hc_z
  replace hc_z := rn_callV (M' := am_m32) (o := 44) (ar := [.int 6, .int (rg_v h 23 9)]) (rest := []) (L := lv_args 0 [.ref 44, .int (rg_v h 23 9), .int 6]) (am_cur_of (i := (10, 3, .invokevirtual 154, (32, 781, 3), 0)) (by decide +kernel)) rfl rfl rfl rfl hc_z
  obtain ⟨r526_z, h527_z, q528_z, hc_z⟩ := hc_z
  have q529_z := rd_of (a := 32) (by decide) rfl q528_z
  obtain ⟨v530_z, rfl⟩ := rn_ret (M := am_m32) rfl (by decide) q528_z
  have D531 : h527_z 44 6 = .ref 23 := q529_z.2.trans D
  replace hc_z : rn _ _ _ _ [.int v530_z] _ _ _ := hc_z
  replace hc_z := rn_if (am_cur_of (i := (13, 3, .ifCond .ne 4, (8, 0, 0), 0)) (by decide +kernel)) hc_z
  rcases hc_z with ⟨b532_z, hc_z⟩ | ⟨b532_z, hc_z⟩
  · replace b532_z : ¬ v530_z = (0 : Int32) ∧ ¬ v530_z.toInt = (0 : Int32).toInt := b532_z
    replace hc_z := rn_aload_n (am_cur_of (i := (17, 1, .aload_n 0, (0, 0, 0), 0)) (by decide +kernel)) g0_z hc_z
    replace hc_z := rn_getM (x := 23) (am_cur_of (i := (18, 3, .getfield 25, (4, 6, 415), 0)) (by decide +kernel)) D531 hc_z
    replace hc_z := rn_getR (x := 27) (am_cur_of (i := (21, 3, .getfield 214, (1, 10, 289), 0)) (by decide +kernel)) (by decide +kernel) hc_z
    replace hc_z := rn_aload_n (am_cur_of (i := (24, 1, .aload_n 0, (0, 0, 0), 0)) (by decide +kernel)) g0_z hc_z
    replace hc_z := rn_getM (x := 23) (am_cur_of (i := (25, 3, .getfield 25, (4, 6, 415), 0)) (by decide +kernel)) D531 hc_z
    replace hc_z := rn_getI (v := rg_v h 23 9) (am_cur_of (i := (28, 3, .getfield 211, (1, 9, 286), 0)) (by decide +kernel)) (by decide +kernel) ((rd_v q529_z (by omega)).trans (rfl)) hc_z
    replace hc_z := rn_aload_n (am_cur_of (i := (31, 1, .aload_n 0, (0, 0, 0), 0)) (by decide +kernel)) g0_z hc_z
    replace hc_z := rn_iconst (w := 1) (am_cur_of (i := (32, 1, .iconst 1, (0, 0, 0), 0)) (by decide +kernel)) (by decide) hc_z
    replace hc_z := rn_bipush (w := 99) (am_cur_of (i := (33, 2, .bipush 99, (0, 0, 0), 0)) (by decide +kernel)) (by decide) hc_z
    replace hc_z := rn_callV (M' := am_m30) (o := 44) (ar := [.int 99, .int 1]) (rest := [.int (rg_v h 23 9), .ref 27]) (L := lv_args 0 [.ref 44, .int 1, .int 99]) (am_cur_of (i := (35, 3, .invokevirtual 142, (30, 773, 3), 0)) (by decide +kernel)) rfl rfl rfl rfl hc_z
    obtain ⟨r533_z, h534_z, q535_z, hc_z⟩ := hc_z
    have q536_z := rd_of (a := 30) (by decide) rfl q535_z
    obtain ⟨v537_z, rfl, lv537_z, uv537_z⟩ := sd_30 (by decide) q535_z
    have D538 : h534_z 44 6 = .ref 23 := q536_z.2.trans D531
    replace hc_z : rn _ _ _ _ [.int v537_z, .int (rg_v h 23 9), .ref 27] _ _ _ := hc_z
    replace hc_z := rn_iastore (N := 6) (q := (rg_v h 23 9).toNatClampNeg) (am_cur_of (i := (38, 1, .iastore, (0, 0, 0), 0)) (by decide +kernel)) (by decide +kernel) rfl hc_z
    obtain ⟨p539_z, hc_z⟩ := hc_z
    replace hc_z := rn_aload_n (am_cur_of (i := (39, 1, .aload_n 0, (0, 0, 0), 0)) (by decide +kernel)) g0_z hc_z
    replace hc_z := rn_getM (x := 23) (am_cur_of (i := (40, 3, .getfield 25, (4, 6, 415), 0)) (by decide +kernel)) (show (am_up h534_z 27 ((rg_v h 23 9).toNatClampNeg) (.int v537_z)) 44 6 = .ref 23 from D538) hc_z
    replace hc_z := rn_getR (x := 28) (am_cur_of (i := (43, 3, .getfield 217, (1, 11, 293), 0)) (by decide +kernel)) (by decide +kernel) hc_z
    replace hc_z := rn_aload_n (am_cur_of (i := (46, 1, .aload_n 0, (0, 0, 0), 0)) (by decide +kernel)) g0_z hc_z
    replace hc_z := rn_getM (x := 23) (am_cur_of (i := (47, 3, .getfield 25, (4, 6, 415), 0)) (by decide +kernel)) (show (am_up h534_z 27 ((rg_v h 23 9).toNatClampNeg) (.int v537_z)) 44 6 = .ref 23 from D538) hc_z
    replace hc_z := rn_getI (v := rg_v h 23 9) (am_cur_of (i := (50, 3, .getfield 211, (1, 9, 286), 0)) (by decide +kernel)) (by decide +kernel) ((rg_v_other (by omega)).trans ((rd_v q536_z (by omega)).trans ((rd_v q529_z (by omega)).trans (rfl)))) hc_z
    replace hc_z := rn_aload_n (am_cur_of (i := (53, 1, .aload_n 0, (0, 0, 0), 0)) (by decide +kernel)) g0_z hc_z
    replace hc_z := rn_iconst (w := 0) (am_cur_of (i := (54, 1, .iconst 0, (0, 0, 0), 0)) (by decide +kernel)) (by decide) hc_z
    replace hc_z := rn_bipush (w := 99) (am_cur_of (i := (55, 2, .bipush 99, (0, 0, 0), 0)) (by decide +kernel)) (by decide) hc_z
    replace hc_z := rn_callV (M' := am_m30) (o := 44) (ar := [.int 99, .int 0]) (rest := [.int (rg_v h 23 9), .ref 28]) (L := lv_args 0 [.ref 44, .int 0, .int 99]) (am_cur_of (i := (57, 3, .invokevirtual 142, (30, 773, 3), 0)) (by decide +kernel)) rfl rfl rfl rfl hc_z
    obtain ⟨r540_z, h541_z, q542_z, hc_z⟩ := hc_z
    have q543_z := rd_of (a := 30) (by decide) rfl q542_z
    obtain ⟨v544_z, rfl, lv544_z, uv544_z⟩ := sd_30 (by decide) q542_z
    have D545 : h541_z 44 6 = .ref 23 := q543_z.2.trans (show (am_up h534_z 27 ((rg_v h 23 9).toNatClampNeg) (.int v537_z)) 44 6 = .ref 23 from ((up_ne (by omega)).trans (D538)))
    replace hc_z : rn _ _ _ _ [.int v544_z, .int (rg_v h 23 9), .ref 28] _ _ _ := hc_z
    replace hc_z := rn_iastore (N := 6) (q := (rg_v h 23 9).toNatClampNeg) (am_cur_of (i := (60, 1, .iastore, (0, 0, 0), 0)) (by decide +kernel)) (by decide +kernel) rfl hc_z
    obtain ⟨p546_z, hc_z⟩ := hc_z
    replace hc_z := rn_aload_n (am_cur_of (i := (61, 1, .aload_n 0, (0, 0, 0), 0)) (by decide +kernel)) g0_z hc_z
    replace hc_z := rn_getM (x := 23) (am_cur_of (i := (62, 3, .getfield 25, (4, 6, 415), 0)) (by decide +kernel)) (show (am_up h541_z 28 ((rg_v h 23 9).toNatClampNeg) (.int v544_z)) 44 6 = .ref 23 from D545) hc_z
    replace hc_z := rn_dup (am_cur_of (i := (65, 1, .dup, (0, 0, 0), 0)) (by decide +kernel)) hc_z
    replace hc_z := rn_getI (v := rg_v h 23 9) (am_cur_of (i := (66, 3, .getfield 211, (1, 9, 286), 0)) (by decide +kernel)) (by decide +kernel) ((rg_v_other (by omega)).trans ((rd_v q543_z (by omega)).trans ((rg_v_other (by omega)).trans ((rd_v q536_z (by omega)).trans ((rd_v q529_z (by omega)).trans (rfl)))))) hc_z
    replace hc_z := rn_iconst (w := 1) (am_cur_of (i := (69, 1, .iconst 1, (0, 0, 0), 0)) (by decide +kernel)) (by decide) hc_z
    replace hc_z := rn_iadd (w := (rg_v h 23 9) + 1) (am_cur_of (i := (70, 1, .iadd, (0, 0, 0), 0)) (by decide +kernel)) rfl hc_z
    replace hc_z := rn_put (am_cur_of (i := (71, 3, .putfield 211, (1, 9, 286), 0)) (by decide +kernel)) (by decide +kernel) hc_z
    replace hc_z := rn_vret (am_cur_of (i := (74, 1, .return_, (0, 0, 0), 0)) (by decide +kernel)) hc_z
    obtain ⟨e547_z, e548_z⟩ := hc_z
    replace e548_z := e548_z.symm
    subst e548_z
    refine ⟨?_, ((up_ne (by omega)).trans ((up_ne (by omega)).trans (D545)))⟩
    have ek : rg_v (am_up (am_up h541_z 28 ((rg_v h 23 9).toNatClampNeg) (.int v544_z)) 23 9 (.int ((rg_v h 23 9) + 1))) 23 9 = (rg_v h 23 9) + 1 := rg_v_self
    have gk : ((rg_v h 23 9) + 1).toInt = (rg_v h 23 9).toInt + 1 := ab_iadd (by rw [z1_z]; omega) (by rw [z1_z]; omega)
    have k2_z : rg_v (am_up (am_up h541_z 28 ((rg_v h 23 9).toNatClampNeg) (.int v544_z)) 23 9 (.int ((rg_v h 23 9) + 1))) 23 2 = rg_v h 23 2 := ((rg_v_other (by omega)).trans ((rg_v_other (by omega)).trans ((rd_v q543_z (by omega)).trans ((rg_v_other (by omega)).trans ((rd_v q536_z (by omega)).trans ((rd_v q529_z (by omega)).trans (rfl)))))))
    have k4_z : rg_v (am_up (am_up h541_z 28 ((rg_v h 23 9).toNatClampNeg) (.int v544_z)) 23 9 (.int ((rg_v h 23 9) + 1))) 23 4 = rg_v h 23 4 := ((rg_v_other (by omega)).trans ((rg_v_other (by omega)).trans ((rd_v q543_z (by omega)).trans ((rg_v_other (by omega)).trans ((rd_v q536_z (by omega)).trans ((rd_v q529_z (by omega)).trans (rfl)))))))
    have k12_z : rg_v (am_up (am_up h541_z 28 ((rg_v h 23 9).toNatClampNeg) (.int v544_z)) 23 9 (.int ((rg_v h 23 9) + 1))) 23 12 = rg_v h 23 12 := ((rg_v_other (by omega)).trans ((rg_v_other (by omega)).trans ((rd_v q543_z (by omega)).trans ((rg_v_other (by omega)).trans ((rd_v q536_z (by omega)).trans ((rd_v q529_z (by omega)).trans (rfl)))))))
    have f2_z : rg_v (am_up (am_up h541_z 28 ((rg_v h 23 9).toNatClampNeg) (.int v544_z)) 23 9 (.int ((rg_v h 23 9) + 1))) 27 (rg_v h 23 9).toNatClampNeg = v537_z := ((rg_v_other (by omega)).trans ((rg_v_other (by omega)).trans ((rd_v q543_z (by omega)).trans (rg_v_self))))
    have w5_z : pv5_z 23 (am_up (am_up h541_z 28 ((rg_v h 23 9).toNatClampNeg) (.int v544_z)) 23 9 (.int ((rg_v h 23 9) + 1))) := by
      intro t ht
      rw [ek, gk] at ht
      by_cases e : t = (rg_v h 23 9).toNatClampNeg
      · rw [e]
        show 1 ≤ (rg_v (am_up (am_up h541_z 28 ((rg_v h 23 9).toNatClampNeg) (.int v544_z)) 23 9 (.int ((rg_v h 23 9) + 1))) 27 _).toInt
        rw [f2_z]
        omega
      · have eA : rg_v (am_up (am_up h541_z 28 ((rg_v h 23 9).toNatClampNeg) (.int v544_z)) 23 9 (.int ((rg_v h 23 9) + 1))) (23 + 4) t = rg_v h (23 + 4) t := ((rg_v_other (by omega)).trans ((rg_v_other (by omega)).trans ((rd_v q543_z (by omega)).trans ((rg_v_other (by omega)).trans ((rd_v q536_z (by omega)).trans ((rd_v q529_z (by omega)).trans (rfl)))))))
        rw [eA]
        exact v5_z t (by omega)
    exact ⟨pv1_e (fun o k q => ((rg_v_other (by omega)).trans ((rg_v_other (by omega)).trans ((rd_v q543_z (by omega)).trans ((rg_v_other (by omega)).trans ((rd_v q536_z (by omega)).trans ((rd_v q529_z (by omega)).trans (rfl)))))))) v1_z, pv2_e VV.2.2.2.2.2.2 (fun o k q => ((rg_v_other (by omega)).trans ((rg_v_other (by omega)).trans ((rd_v q543_z (by omega)).trans ((rg_v_other (by omega)).trans ((rd_v q536_z (by omega)).trans ((rd_v q529_z (by omega)).trans (rfl)))))))) v2_z, pv3_e (fun o k q => ((rg_v_other (by omega)).trans ((rg_v_other (by omega)).trans ((rd_v q543_z (by omega)).trans ((rg_v_other (by omega)).trans ((rd_v q536_z (by omega)).trans ((rd_v q529_z (by omega)).trans (rfl)))))))) v3_z, pv4_e (fun o k q => ((rg_v_other (by omega)).trans ((rg_v_other (by omega)).trans ((rd_v q543_z (by omega)).trans ((rg_v_other (by omega)).trans ((rd_v q536_z (by omega)).trans ((rd_v q529_z (by omega)).trans (rfl)))))))) v4_z, w5_z, pv6_e (fun o k q => ((rg_v_other (by omega)).trans ((rg_v_other (by omega)).trans ((rd_v q543_z (by omega)).trans ((rg_v_other (by omega)).trans ((rd_v q536_z (by omega)).trans ((rd_v q529_z (by omega)).trans (rfl)))))))) v6_z, (by unfold pv7_z; rw [k2_z, k4_z, ek, k12_z]; omega)⟩
  · replace b532_z : v530_z = (0 : Int32) ∧ v530_z.toInt = (0 : Int32).toInt := b532_z
    replace hc_z := rn_vret (am_cur_of (i := (16, 1, .return_, (0, 0, 0), 0)) (by decide +kernel)) hc_z
    obtain ⟨e549_z, e550_z⟩ := hc_z
    replace e550_z := e550_z.symm
    subst e550_z
    refine ⟨?_, D531⟩
    exact ⟨pv1_e (fun o k q => ((rd_v q529_z (by omega)).trans (rfl))) v1_z, pv2_e VV.2.2.2.2.2.2 (fun o k q => ((rd_v q529_z (by omega)).trans (rfl))) v2_z, pv3_e (fun o k q => ((rd_v q529_z (by omega)).trans (rfl))) v3_z, pv4_e (fun o k q => ((rd_v q529_z (by omega)).trans (rfl))) v4_z, pv5_e (fun o k q => ((rd_v q529_z (by omega)).trans (rfl))) v5_z, pv6_e (fun o k q => ((rd_v q529_z (by omega)).trans (rfl))) v6_z, pv7_e (fun o k q => ((rd_v q529_z (by omega)).trans (rfl))) VV.2.2.2.2.2.2⟩
theorem sd_38_23 {n : Nat} {r : Option Value} {h h' : am_H} (D : h 44 6 = .ref 23) (V : pv 23 h) (hc_z : rn n am_m38 0 (lv_args 0 [.ref 44]) [] h r h') : pv 23 h' ∧ h' 44 6 = .ref 23 := by
  have zm1_z : ((-1) : Int32).toInt = (-1) := by decide
  have z0_z : (0 : Int32).toInt = 0 := by decide
  have z1_z : (1 : Int32).toInt = 1 := by decide
  have z99_z : (99 : Int32).toInt = 99 := by decide
  have z100_z : (100 : Int32).toInt = 100 := by decide
  have g0_z : am_get (lv_args 0 [.ref 44]) 0 = some (.ref 44) := rfl
  have VV := V
  obtain ⟨v1_z, v2_z, v3_z, v4_z, v5_z, v6_z, ⟨n0_z, n4_z⟩, ⟨t0_z, t8_z⟩, ⟨l0_z, l6_z⟩, ⟨r0_z, r3_z⟩⟩ := V
  replace hc_z := rn_aload_n (am_cur_of (i := (0, 1, .aload_n 0, (0, 0, 0), 0)) (by decide +kernel)) g0_z hc_z
  replace hc_z := rn_aload_n (am_cur_of (i := (1, 1, .aload_n 0, (0, 0, 0), 0)) (by decide +kernel)) g0_z hc_z
  replace hc_z := rn_getM (x := 23) (am_cur_of (i := (2, 3, .getfield 25, (4, 6, 415), 0)) (by decide +kernel)) D hc_z
  replace hc_z := rn_getI (v := rg_v h 23 12) (am_cur_of (i := (5, 3, .getfield 220, (1, 12, 296), 0)) (by decide +kernel)) (by decide +kernel) rfl hc_z
  replace hc_z := rn_iconst (w := 3) (am_cur_of (i := (8, 1, .iconst 3, (0, 0, 0), 0)) (by decide +kernel)) (by decide) hc_z
  replace hc_z := rn_callV (M' := am_m32) (o := 44) (ar := [.int 3, .int (rg_v h 23 12)]) (rest := []) (L := lv_args 0 [.ref 44, .int (rg_v h 23 12), .int 3]) (am_cur_of (i := (9, 3, .invokevirtual 154, (32, 781, 3), 0)) (by decide +kernel)) rfl rfl rfl rfl hc_z
  obtain ⟨r551_z, h552_z, q553_z, hc_z⟩ := hc_z
  have q554_z := rd_of (a := 32) (by decide) rfl q553_z
  obtain ⟨v555_z, rfl⟩ := rn_ret (M := am_m32) rfl (by decide) q553_z
  have D556 : h552_z 44 6 = .ref 23 := q554_z.2.trans D
  replace hc_z : rn _ _ _ _ [.int v555_z] _ _ _ := hc_z
  replace hc_z := rn_if (am_cur_of (i := (12, 3, .ifCond .eq 10, (10, 0, 0), 0)) (by decide +kernel)) hc_z
  rcases hc_z with ⟨b557_z, hc_z⟩ | ⟨b557_z, hc_z⟩
  · replace b557_z : v555_z = (0 : Int32) ∧ v555_z.toInt = (0 : Int32).toInt := b557_z
    replace hc_z := rn_vret (am_cur_of (i := (22, 1, .return_, (0, 0, 0), 0)) (by decide +kernel)) hc_z
    obtain ⟨e558_z, e559_z⟩ := hc_z
    replace e559_z := e559_z.symm
    subst e559_z
    refine ⟨?_, D556⟩
    exact ⟨pv1_e (fun o k q => ((rd_v q554_z (by omega)).trans (rfl))) v1_z, pv2_e VV.2.2.2.2.2.2 (fun o k q => ((rd_v q554_z (by omega)).trans (rfl))) v2_z, pv3_e (fun o k q => ((rd_v q554_z (by omega)).trans (rfl))) v3_z, pv4_e (fun o k q => ((rd_v q554_z (by omega)).trans (rfl))) v4_z, pv5_e (fun o k q => ((rd_v q554_z (by omega)).trans (rfl))) v5_z, pv6_e (fun o k q => ((rd_v q554_z (by omega)).trans (rfl))) v6_z, pv7_e (fun o k q => ((rd_v q554_z (by omega)).trans (rfl))) VV.2.2.2.2.2.2⟩
  · replace b557_z : ¬ v555_z = (0 : Int32) ∧ ¬ v555_z.toInt = (0 : Int32).toInt := b557_z
    replace hc_z := rn_aload_n (am_cur_of (i := (15, 1, .aload_n 0, (0, 0, 0), 0)) (by decide +kernel)) g0_z hc_z
    replace hc_z := rn_callV (M' := am_m33) (o := 44) (ar := []) (rest := []) (L := lv_args 0 [.ref 44]) (am_cur_of (i := (16, 3, .invokevirtual 158, (33, 785, 3), 0)) (by decide +kernel)) rfl rfl rfl rfl hc_z
    obtain ⟨r560_z, h561_z, q562_z, hc_z⟩ := hc_z
    have q563_z := rd_of (a := 33) (by decide) rfl q562_z
    obtain ⟨v564_z, rfl⟩ := rn_ret (M := am_m33) rfl (by decide) q562_z
    have D565 : h561_z 44 6 = .ref 23 := q563_z.2.trans D556
    replace hc_z : rn _ _ _ _ [.int v564_z] _ _ _ := hc_z
    replace hc_z := rn_if (am_cur_of (i := (19, 3, .ifCond .ne 4, (11, 0, 0), 0)) (by decide +kernel)) hc_z
    rcases hc_z with ⟨b566_z, hc_z⟩ | ⟨b566_z, hc_z⟩
    · replace b566_z : ¬ v564_z = (0 : Int32) ∧ ¬ v564_z.toInt = (0 : Int32).toInt := b566_z
      replace hc_z := rn_aload_n (am_cur_of (i := (23, 1, .aload_n 0, (0, 0, 0), 0)) (by decide +kernel)) g0_z hc_z
      replace hc_z := rn_getM (x := 23) (am_cur_of (i := (24, 3, .getfield 25, (4, 6, 415), 0)) (by decide +kernel)) D565 hc_z
      replace hc_z := rn_aload_n (am_cur_of (i := (27, 1, .aload_n 0, (0, 0, 0), 0)) (by decide +kernel)) g0_z hc_z
      replace hc_z := rn_getI (v := rg_v h561_z 44 11) (am_cur_of (i := (28, 3, .getfield 91, (4, 11, 420), 0)) (by decide +kernel)) (by decide +kernel) rfl hc_z
      replace hc_z := rn_callV (M' := am_m39) (o := 23) (ar := [.int (rg_v h561_z 44 11)]) (rest := []) (L := lv_args 0 [.ref 23, .int (rg_v h561_z 44 11)]) (am_cur_of (i := (31, 3, .invokevirtual 223, (39, 809, 3), 0)) (by decide +kernel)) rfl rfl rfl rfl hc_z
      obtain ⟨r567_z, h568_z, q569_z, hc_z⟩ := hc_z
      have q570_z := rd_of (a := 39) (by decide) rfl q569_z
      obtain ⟨v571_z, rfl⟩ := rn_ret (M := am_m39) rfl (by decide) q569_z
      have D572 : h568_z 44 6 = .ref 23 := q570_z.2.trans D565
      replace hc_z : rn _ _ _ _ [.int v571_z] _ _ _ := hc_z
      replace hc_z := rn_iconst (w := (-1)) (am_cur_of (i := (34, 1, .iconst (-1), (0, 0, 0), 0)) (by decide +kernel)) (by decide) hc_z
      replace hc_z := rn_cmp (am_cur_of (i := (35, 3, .if_icmp .eq 9, (22, 0, 0), 0)) (by decide +kernel)) hc_z
      rcases hc_z with ⟨b573_z, hc_z⟩ | ⟨b573_z, hc_z⟩
      · replace b573_z : v571_z = ((-1) : Int32) ∧ v571_z.toInt = ((-1) : Int32).toInt := b573_z
        replace hc_z := rn_aload_n (am_cur_of (i := (44, 1, .aload_n 0, (0, 0, 0), 0)) (by decide +kernel)) g0_z hc_z
        replace hc_z := rn_getM (x := 23) (am_cur_of (i := (45, 3, .getfield 25, (4, 6, 415), 0)) (by decide +kernel)) D572 hc_z
        replace hc_z := rn_getR (x := 29) (am_cur_of (i := (48, 3, .getfield 226, (1, 13, 299), 0)) (by decide +kernel)) (by decide +kernel) hc_z
        replace hc_z := rn_aload_n (am_cur_of (i := (51, 1, .aload_n 0, (0, 0, 0), 0)) (by decide +kernel)) g0_z hc_z
        replace hc_z := rn_getM (x := 23) (am_cur_of (i := (52, 3, .getfield 25, (4, 6, 415), 0)) (by decide +kernel)) D572 hc_z
        replace hc_z := rn_getI (v := rg_v h 23 12) (am_cur_of (i := (55, 3, .getfield 220, (1, 12, 296), 0)) (by decide +kernel)) (by decide +kernel) ((rd_v q570_z (by omega)).trans ((rd_v q563_z (by omega)).trans ((rd_v q554_z (by omega)).trans (rfl)))) hc_z
        replace hc_z := rn_aload_n (am_cur_of (i := (58, 1, .aload_n 0, (0, 0, 0), 0)) (by decide +kernel)) g0_z hc_z
        replace hc_z := rn_getI (v := rg_v h568_z 44 11) (am_cur_of (i := (59, 3, .getfield 91, (4, 11, 420), 0)) (by decide +kernel)) (by decide +kernel) rfl hc_z
        replace hc_z := rn_iastore (N := 3) (q := (rg_v h 23 12).toNatClampNeg) (am_cur_of (i := (62, 1, .iastore, (0, 0, 0), 0)) (by decide +kernel)) (by decide +kernel) rfl hc_z
        obtain ⟨p574_z, hc_z⟩ := hc_z
        replace hc_z := rn_aload_n (am_cur_of (i := (63, 1, .aload_n 0, (0, 0, 0), 0)) (by decide +kernel)) g0_z hc_z
        replace hc_z := rn_callV (M' := am_m19) (o := 44) (ar := []) (rest := []) (L := lv_args 0 [.ref 44]) (am_cur_of (i := (64, 3, .invokevirtual 57, (19, 727, 3), 0)) (by decide +kernel)) rfl rfl rfl rfl hc_z
        obtain ⟨r575_z, h576_z, q577_z, hc_z⟩ := hc_z
        have q578_z := rd_of (a := 19) (by decide) rfl q577_z
        have vo := rn_void rfl q577_z
        subst vo
        have D579 : h576_z 44 6 = .ref 23 := q578_z.2.trans (show (am_up h568_z 29 ((rg_v h 23 12).toNatClampNeg) (.int (rg_v h568_z 44 11))) 44 6 = .ref 23 from ((up_ne (by omega)).trans (D572)))
        replace hc_z : rn _ _ _ _ [] _ _ _ := hc_z
        replace hc_z := rn_aload_n (am_cur_of (i := (67, 1, .aload_n 0, (0, 0, 0), 0)) (by decide +kernel)) g0_z hc_z
        replace hc_z := rn_getM (x := 23) (am_cur_of (i := (68, 3, .getfield 25, (4, 6, 415), 0)) (by decide +kernel)) D579 hc_z
        replace hc_z := rn_getR (x := 30) (am_cur_of (i := (71, 3, .getfield 229, (1, 14, 302), 0)) (by decide +kernel)) (by decide +kernel) hc_z
        replace hc_z := rn_aload_n (am_cur_of (i := (74, 1, .aload_n 0, (0, 0, 0), 0)) (by decide +kernel)) g0_z hc_z
        replace hc_z := rn_getM (x := 23) (am_cur_of (i := (75, 3, .getfield 25, (4, 6, 415), 0)) (by decide +kernel)) D579 hc_z
        replace hc_z := rn_getI (v := rg_v h 23 12) (am_cur_of (i := (78, 3, .getfield 220, (1, 12, 296), 0)) (by decide +kernel)) (by decide +kernel) ((rd_v q578_z (by omega)).trans ((rg_v_other (by omega)).trans ((rd_v q570_z (by omega)).trans ((rd_v q563_z (by omega)).trans ((rd_v q554_z (by omega)).trans (rfl)))))) hc_z
        replace hc_z := rn_aload_n (am_cur_of (i := (81, 1, .aload_n 0, (0, 0, 0), 0)) (by decide +kernel)) g0_z hc_z
        replace hc_z := rn_iconst (w := 1) (am_cur_of (i := (82, 1, .iconst 1, (0, 0, 0), 0)) (by decide +kernel)) (by decide) hc_z
        replace hc_z := rn_bipush (w := 100) (am_cur_of (i := (83, 2, .bipush 100, (0, 0, 0), 0)) (by decide +kernel)) (by decide) hc_z
        replace hc_z := rn_callV (M' := am_m30) (o := 44) (ar := [.int 100, .int 1]) (rest := [.int (rg_v h 23 12), .ref 30]) (L := lv_args 0 [.ref 44, .int 1, .int 100]) (am_cur_of (i := (85, 3, .invokevirtual 142, (30, 773, 3), 0)) (by decide +kernel)) rfl rfl rfl rfl hc_z
        obtain ⟨r580_z, h581_z, q582_z, hc_z⟩ := hc_z
        have q583_z := rd_of (a := 30) (by decide) rfl q582_z
        obtain ⟨v584_z, rfl, lv584_z, uv584_z⟩ := sd_30 (by decide) q582_z
        have D585 : h581_z 44 6 = .ref 23 := q583_z.2.trans D579
        replace hc_z : rn _ _ _ _ [.int v584_z, .int (rg_v h 23 12), .ref 30] _ _ _ := hc_z
        replace hc_z := rn_iastore (N := 3) (q := (rg_v h 23 12).toNatClampNeg) (am_cur_of (i := (88, 1, .iastore, (0, 0, 0), 0)) (by decide +kernel)) (by decide +kernel) rfl hc_z
        obtain ⟨p586_z, hc_z⟩ := hc_z
        replace hc_z := rn_aload_n (am_cur_of (i := (89, 1, .aload_n 0, (0, 0, 0), 0)) (by decide +kernel)) g0_z hc_z
        replace hc_z := rn_getM (x := 23) (am_cur_of (i := (90, 3, .getfield 25, (4, 6, 415), 0)) (by decide +kernel)) (show (am_up h581_z 30 ((rg_v h 23 12).toNatClampNeg) (.int v584_z)) 44 6 = .ref 23 from D585) hc_z
        replace hc_z := rn_getR (x := 31) (am_cur_of (i := (93, 3, .getfield 232, (1, 15, 305), 0)) (by decide +kernel)) (by decide +kernel) hc_z
        replace hc_z := rn_aload_n (am_cur_of (i := (96, 1, .aload_n 0, (0, 0, 0), 0)) (by decide +kernel)) g0_z hc_z
        replace hc_z := rn_getM (x := 23) (am_cur_of (i := (97, 3, .getfield 25, (4, 6, 415), 0)) (by decide +kernel)) (show (am_up h581_z 30 ((rg_v h 23 12).toNatClampNeg) (.int v584_z)) 44 6 = .ref 23 from D585) hc_z
        replace hc_z := rn_getI (v := rg_v h 23 12) (am_cur_of (i := (100, 3, .getfield 220, (1, 12, 296), 0)) (by decide +kernel)) (by decide +kernel) ((rg_v_other (by omega)).trans ((rd_v q583_z (by omega)).trans ((rd_v q578_z (by omega)).trans ((rg_v_other (by omega)).trans ((rd_v q570_z (by omega)).trans ((rd_v q563_z (by omega)).trans ((rd_v q554_z (by omega)).trans (rfl)))))))) hc_z
        replace hc_z := rn_aload_n (am_cur_of (i := (103, 1, .aload_n 0, (0, 0, 0), 0)) (by decide +kernel)) g0_z hc_z
        replace hc_z := rn_iconst (w := 1) (am_cur_of (i := (104, 1, .iconst 1, (0, 0, 0), 0)) (by decide +kernel)) (by decide) hc_z
        replace hc_z := rn_bipush (w := 99) (am_cur_of (i := (105, 2, .bipush 99, (0, 0, 0), 0)) (by decide +kernel)) (by decide) hc_z
        replace hc_z := rn_callV (M' := am_m30) (o := 44) (ar := [.int 99, .int 1]) (rest := [.int (rg_v h 23 12), .ref 31]) (L := lv_args 0 [.ref 44, .int 1, .int 99]) (am_cur_of (i := (107, 3, .invokevirtual 142, (30, 773, 3), 0)) (by decide +kernel)) rfl rfl rfl rfl hc_z
        obtain ⟨r587_z, h588_z, q589_z, hc_z⟩ := hc_z
        have q590_z := rd_of (a := 30) (by decide) rfl q589_z
        obtain ⟨v591_z, rfl, lv591_z, uv591_z⟩ := sd_30 (by decide) q589_z
        have D592 : h588_z 44 6 = .ref 23 := q590_z.2.trans (show (am_up h581_z 30 ((rg_v h 23 12).toNatClampNeg) (.int v584_z)) 44 6 = .ref 23 from ((up_ne (by omega)).trans (D585)))
        replace hc_z : rn _ _ _ _ [.int v591_z, .int (rg_v h 23 12), .ref 31] _ _ _ := hc_z
        replace hc_z := rn_iastore (N := 3) (q := (rg_v h 23 12).toNatClampNeg) (am_cur_of (i := (110, 1, .iastore, (0, 0, 0), 0)) (by decide +kernel)) (by decide +kernel) rfl hc_z
        obtain ⟨p593_z, hc_z⟩ := hc_z
        replace hc_z := rn_aload_n (am_cur_of (i := (111, 1, .aload_n 0, (0, 0, 0), 0)) (by decide +kernel)) g0_z hc_z
        replace hc_z := rn_getM (x := 23) (am_cur_of (i := (112, 3, .getfield 25, (4, 6, 415), 0)) (by decide +kernel)) (show (am_up h588_z 31 ((rg_v h 23 12).toNatClampNeg) (.int v591_z)) 44 6 = .ref 23 from D592) hc_z
        replace hc_z := rn_dup (am_cur_of (i := (115, 1, .dup, (0, 0, 0), 0)) (by decide +kernel)) hc_z
        replace hc_z := rn_getI (v := rg_v h 23 12) (am_cur_of (i := (116, 3, .getfield 220, (1, 12, 296), 0)) (by decide +kernel)) (by decide +kernel) ((rg_v_other (by omega)).trans ((rd_v q590_z (by omega)).trans ((rg_v_other (by omega)).trans ((rd_v q583_z (by omega)).trans ((rd_v q578_z (by omega)).trans ((rg_v_other (by omega)).trans ((rd_v q570_z (by omega)).trans ((rd_v q563_z (by omega)).trans ((rd_v q554_z (by omega)).trans (rfl)))))))))) hc_z
        replace hc_z := rn_iconst (w := 1) (am_cur_of (i := (119, 1, .iconst 1, (0, 0, 0), 0)) (by decide +kernel)) (by decide) hc_z
        replace hc_z := rn_iadd (w := (rg_v h 23 12) + 1) (am_cur_of (i := (120, 1, .iadd, (0, 0, 0), 0)) (by decide +kernel)) rfl hc_z
        replace hc_z := rn_put (am_cur_of (i := (121, 3, .putfield 220, (1, 12, 296), 0)) (by decide +kernel)) (by decide +kernel) hc_z
        replace hc_z := rn_vret (am_cur_of (i := (124, 1, .return_, (0, 0, 0), 0)) (by decide +kernel)) hc_z
        obtain ⟨e594_z, e595_z⟩ := hc_z
        replace e595_z := e595_z.symm
        subst e595_z
        refine ⟨?_, ((up_ne (by omega)).trans ((up_ne (by omega)).trans (D592)))⟩
        have ek : rg_v (am_up (am_up h588_z 31 ((rg_v h 23 12).toNatClampNeg) (.int v591_z)) 23 12 (.int ((rg_v h 23 12) + 1))) 23 12 = (rg_v h 23 12) + 1 := rg_v_self
        have gk : ((rg_v h 23 12) + 1).toInt = (rg_v h 23 12).toInt + 1 := ab_iadd (by rw [z1_z]; omega) (by rw [z1_z]; omega)
        have k2_z : rg_v (am_up (am_up h588_z 31 ((rg_v h 23 12).toNatClampNeg) (.int v591_z)) 23 12 (.int ((rg_v h 23 12) + 1))) 23 2 = rg_v h 23 2 := ((rg_v_other (by omega)).trans ((rg_v_other (by omega)).trans ((rd_v q590_z (by omega)).trans ((rg_v_other (by omega)).trans ((rd_v q583_z (by omega)).trans ((rd_v q578_z (by omega)).trans ((rg_v_other (by omega)).trans ((rd_v q570_z (by omega)).trans ((rd_v q563_z (by omega)).trans ((rd_v q554_z (by omega)).trans (rfl)))))))))))
        have k4_z : rg_v (am_up (am_up h588_z 31 ((rg_v h 23 12).toNatClampNeg) (.int v591_z)) 23 12 (.int ((rg_v h 23 12) + 1))) 23 4 = rg_v h 23 4 := ((rg_v_other (by omega)).trans ((rg_v_other (by omega)).trans ((rd_v q590_z (by omega)).trans ((rg_v_other (by omega)).trans ((rd_v q583_z (by omega)).trans ((rd_v q578_z (by omega)).trans ((rg_v_other (by omega)).trans ((rd_v q570_z (by omega)).trans ((rd_v q563_z (by omega)).trans ((rd_v q554_z (by omega)).trans (rfl)))))))))))
        have k9_z : rg_v (am_up (am_up h588_z 31 ((rg_v h 23 12).toNatClampNeg) (.int v591_z)) 23 12 (.int ((rg_v h 23 12) + 1))) 23 9 = rg_v h 23 9 := ((rg_v_other (by omega)).trans ((rg_v_other (by omega)).trans ((rd_v q590_z (by omega)).trans ((rg_v_other (by omega)).trans ((rd_v q583_z (by omega)).trans ((rd_v q578_z (by omega)).trans ((rg_v_other (by omega)).trans ((rd_v q570_z (by omega)).trans ((rd_v q563_z (by omega)).trans ((rd_v q554_z (by omega)).trans (rfl)))))))))))
        have f2_z : rg_v (am_up (am_up h588_z 31 ((rg_v h 23 12).toNatClampNeg) (.int v591_z)) 23 12 (.int ((rg_v h 23 12) + 1))) 30 (rg_v h 23 12).toNatClampNeg = v584_z := ((rg_v_other (by omega)).trans ((rg_v_other (by omega)).trans ((rd_v q590_z (by omega)).trans (rg_v_self))))
        have f3_z : rg_v (am_up (am_up h588_z 31 ((rg_v h 23 12).toNatClampNeg) (.int v591_z)) 23 12 (.int ((rg_v h 23 12) + 1))) 31 (rg_v h 23 12).toNatClampNeg = v591_z := ((rg_v_other (by omega)).trans (rg_v_self))
        have w6_z : pv6_z 23 (am_up (am_up h588_z 31 ((rg_v h 23 12).toNatClampNeg) (.int v591_z)) 23 12 (.int ((rg_v h 23 12) + 1))) := by
          intro t ht
          rw [ek, gk] at ht
          by_cases e : t = (rg_v h 23 12).toNatClampNeg
          · rw [e]
            show 1 ≤ (rg_v (am_up (am_up h588_z 31 ((rg_v h 23 12).toNatClampNeg) (.int v591_z)) 23 12 (.int ((rg_v h 23 12) + 1))) 30 _).toInt ∧ (rg_v (am_up (am_up h588_z 31 ((rg_v h 23 12).toNatClampNeg) (.int v591_z)) 23 12 (.int ((rg_v h 23 12) + 1))) 30 _).toInt ≤ 100 ∧ 1 ≤ (rg_v (am_up (am_up h588_z 31 ((rg_v h 23 12).toNatClampNeg) (.int v591_z)) 23 12 (.int ((rg_v h 23 12) + 1))) 31 _).toInt
            rw [f2_z, f3_z]
            omega
          · have eA : ∀ o, (23 + 7 ≤ o ∧ o ≤ 23 + 8) → rg_v (am_up (am_up h588_z 31 ((rg_v h 23 12).toNatClampNeg) (.int v591_z)) 23 12 (.int ((rg_v h 23 12) + 1))) o t = rg_v h o t := fun o q => ((rg_v_other (by omega)).trans ((rg_v_other (by omega)).trans ((rd_v q590_z (by omega)).trans ((rg_v_other (by omega)).trans ((rd_v q583_z (by omega)).trans ((rd_v q578_z (by omega)).trans ((rg_v_other (by omega)).trans ((rd_v q570_z (by omega)).trans ((rd_v q563_z (by omega)).trans ((rd_v q554_z (by omega)).trans (rfl)))))))))))
            rw [eA (23 + 7) (by omega), eA (23 + 8) (by omega)]
            exact v6_z t (by omega)
        exact ⟨pv1_e (fun o k q => ((rg_v_other (by omega)).trans ((rg_v_other (by omega)).trans ((rd_v q590_z (by omega)).trans ((rg_v_other (by omega)).trans ((rd_v q583_z (by omega)).trans ((rd_v q578_z (by omega)).trans ((rg_v_other (by omega)).trans ((rd_v q570_z (by omega)).trans ((rd_v q563_z (by omega)).trans ((rd_v q554_z (by omega)).trans (rfl)))))))))))) v1_z, pv2_e VV.2.2.2.2.2.2 (fun o k q => ((rg_v_other (by omega)).trans ((rg_v_other (by omega)).trans ((rd_v q590_z (by omega)).trans ((rg_v_other (by omega)).trans ((rd_v q583_z (by omega)).trans ((rd_v q578_z (by omega)).trans ((rg_v_other (by omega)).trans ((rd_v q570_z (by omega)).trans ((rd_v q563_z (by omega)).trans ((rd_v q554_z (by omega)).trans (rfl)))))))))))) v2_z, pv3_e (fun o k q => ((rg_v_other (by omega)).trans ((rg_v_other (by omega)).trans ((rd_v q590_z (by omega)).trans ((rg_v_other (by omega)).trans ((rd_v q583_z (by omega)).trans ((rd_v q578_z (by omega)).trans ((rg_v_other (by omega)).trans ((rd_v q570_z (by omega)).trans ((rd_v q563_z (by omega)).trans ((rd_v q554_z (by omega)).trans (rfl)))))))))))) v3_z, pv4_e (fun o k q => ((rg_v_other (by omega)).trans ((rg_v_other (by omega)).trans ((rd_v q590_z (by omega)).trans ((rg_v_other (by omega)).trans ((rd_v q583_z (by omega)).trans ((rd_v q578_z (by omega)).trans ((rg_v_other (by omega)).trans ((rd_v q570_z (by omega)).trans ((rd_v q563_z (by omega)).trans ((rd_v q554_z (by omega)).trans (rfl)))))))))))) v4_z, pv5_e (fun o k q => ((rg_v_other (by omega)).trans ((rg_v_other (by omega)).trans ((rd_v q590_z (by omega)).trans ((rg_v_other (by omega)).trans ((rd_v q583_z (by omega)).trans ((rd_v q578_z (by omega)).trans ((rg_v_other (by omega)).trans ((rd_v q570_z (by omega)).trans ((rd_v q563_z (by omega)).trans ((rd_v q554_z (by omega)).trans (rfl)))))))))))) v5_z, w6_z, (by unfold pv7_z; rw [k2_z, k4_z, k9_z, ek]; omega)⟩
      · replace b573_z : ¬ v571_z = ((-1) : Int32) ∧ ¬ v571_z.toInt = ((-1) : Int32).toInt := b573_z
        replace hc_z := rn_aload_n (am_cur_of (i := (38, 1, .aload_n 0, (0, 0, 0), 0)) (by decide +kernel)) g0_z hc_z
        replace hc_z := rn_iconst (w := 3) (am_cur_of (i := (39, 1, .iconst 3, (0, 0, 0), 0)) (by decide +kernel)) (by decide) hc_z
        replace hc_z := rn_callV (M' := am_m29) (o := 44) (ar := [.int 3]) (rest := []) (L := lv_args 0 [.ref 44, .int 3]) (am_cur_of (i := (40, 3, .invokevirtual 108, (29, 769, 3), 0)) (by decide +kernel)) rfl rfl rfl rfl hc_z
        obtain ⟨r596_z, h597_z, q598_z, hc_z⟩ := hc_z
        have q599_z := rd_of (a := 29) (by decide) rfl q598_z
        have vo := rn_void rfl q598_z
        subst vo
        have D600 : h597_z 44 6 = .ref 23 := q599_z.2.trans D572
        replace hc_z : rn _ _ _ _ [] _ _ _ := hc_z
        replace hc_z := rn_vret (am_cur_of (i := (43, 1, .return_, (0, 0, 0), 0)) (by decide +kernel)) hc_z
        obtain ⟨e601_z, e602_z⟩ := hc_z
        replace e602_z := e602_z.symm
        subst e602_z
        refine ⟨?_, D600⟩
        exact ⟨pv1_e (fun o k q => ((rd_v q599_z (by omega)).trans ((rd_v q570_z (by omega)).trans ((rd_v q563_z (by omega)).trans ((rd_v q554_z (by omega)).trans (rfl)))))) v1_z, pv2_e VV.2.2.2.2.2.2 (fun o k q => ((rd_v q599_z (by omega)).trans ((rd_v q570_z (by omega)).trans ((rd_v q563_z (by omega)).trans ((rd_v q554_z (by omega)).trans (rfl)))))) v2_z, pv3_e (fun o k q => ((rd_v q599_z (by omega)).trans ((rd_v q570_z (by omega)).trans ((rd_v q563_z (by omega)).trans ((rd_v q554_z (by omega)).trans (rfl)))))) v3_z, pv4_e (fun o k q => ((rd_v q599_z (by omega)).trans ((rd_v q570_z (by omega)).trans ((rd_v q563_z (by omega)).trans ((rd_v q554_z (by omega)).trans (rfl)))))) v4_z, pv5_e (fun o k q => ((rd_v q599_z (by omega)).trans ((rd_v q570_z (by omega)).trans ((rd_v q563_z (by omega)).trans ((rd_v q554_z (by omega)).trans (rfl)))))) v5_z, pv6_e (fun o k q => ((rd_v q599_z (by omega)).trans ((rd_v q570_z (by omega)).trans ((rd_v q563_z (by omega)).trans ((rd_v q554_z (by omega)).trans (rfl)))))) v6_z, pv7_e (fun o k q => ((rd_v q599_z (by omega)).trans ((rd_v q570_z (by omega)).trans ((rd_v q563_z (by omega)).trans ((rd_v q554_z (by omega)).trans (rfl)))))) VV.2.2.2.2.2.2⟩
    · replace b566_z : v564_z = (0 : Int32) ∧ v564_z.toInt = (0 : Int32).toInt := b566_z
      replace hc_z := rn_vret (am_cur_of (i := (22, 1, .return_, (0, 0, 0), 0)) (by decide +kernel)) hc_z
      obtain ⟨e603_z, e604_z⟩ := hc_z
      replace e604_z := e604_z.symm
      subst e604_z
      refine ⟨?_, D565⟩
      exact ⟨pv1_e (fun o k q => ((rd_v q563_z (by omega)).trans ((rd_v q554_z (by omega)).trans (rfl)))) v1_z, pv2_e VV.2.2.2.2.2.2 (fun o k q => ((rd_v q563_z (by omega)).trans ((rd_v q554_z (by omega)).trans (rfl)))) v2_z, pv3_e (fun o k q => ((rd_v q563_z (by omega)).trans ((rd_v q554_z (by omega)).trans (rfl)))) v3_z, pv4_e (fun o k q => ((rd_v q563_z (by omega)).trans ((rd_v q554_z (by omega)).trans (rfl)))) v4_z, pv5_e (fun o k q => ((rd_v q563_z (by omega)).trans ((rd_v q554_z (by omega)).trans (rfl)))) v5_z, pv6_e (fun o k q => ((rd_v q563_z (by omega)).trans ((rd_v q554_z (by omega)).trans (rfl)))) v6_z, pv7_e (fun o k q => ((rd_v q563_z (by omega)).trans ((rd_v q554_z (by omega)).trans (rfl)))) VV.2.2.2.2.2.2⟩
theorem sd_40_23 {n : Nat} {r : Option Value} {h h' : am_H} (D : h 44 6 = .ref 23) (V : pv 23 h) (hc_z : rn n am_m40 0 (lv_args 0 [.ref 44]) [] h r h') : pv 23 h' ∧ h' 44 6 = .ref 23 := by
  have z0_z : (0 : Int32).toInt = 0 := by decide
  have z999_z : (999 : Int32).toInt = 999 := by decide
  have g0_z : am_get (lv_args 0 [.ref 44]) 0 = some (.ref 44) := rfl
  have VV := V
  obtain ⟨v1_z, v2_z, v3_z, v4_z, v5_z, v6_z, ⟨n0_z, n4_z⟩, ⟨t0_z, t8_z⟩, ⟨l0_z, l6_z⟩, ⟨r0_z, r3_z⟩⟩ := V
  replace hc_z := rn_aload_n (am_cur_of (i := (0, 1, .aload_n 0, (0, 0, 0), 0)) (by decide +kernel)) g0_z hc_z
  replace hc_z := rn_bipush (w := 6) (am_cur_of (i := (1, 2, .bipush 6, (0, 0, 0), 0)) (by decide +kernel)) (by decide) hc_z
  replace hc_z := rn_callV (M' := am_m28) (o := 44) (ar := [.int 6]) (rest := []) (L := lv_args 0 [.ref 44, .int 6]) (am_cur_of (i := (3, 3, .invokevirtual 139, (28, 765, 3), 0)) (by decide +kernel)) rfl rfl rfl rfl hc_z
  obtain ⟨r605_z, h606_z, q607_z, hc_z⟩ := hc_z
  have q608_z := rd_of (a := 28) (by decide) rfl q607_z
  have vo := rn_void rfl q607_z
  subst vo
  have D609 : h606_z 44 6 = .ref 23 := q608_z.2.trans D
  replace hc_z : rn _ _ _ _ [] _ _ _ := hc_z
  replace hc_z := rn_aload_n (am_cur_of (i := (6, 1, .aload_n 0, (0, 0, 0), 0)) (by decide +kernel)) g0_z hc_z
  replace hc_z := rn_getM (x := 23) (am_cur_of (i := (7, 3, .getfield 25, (4, 6, 415), 0)) (by decide +kernel)) D609 hc_z
  replace hc_z := rn_aload_n (am_cur_of (i := (10, 1, .aload_n 0, (0, 0, 0), 0)) (by decide +kernel)) g0_z hc_z
  replace hc_z := rn_iconst (w := 0) (am_cur_of (i := (11, 1, .iconst 0, (0, 0, 0), 0)) (by decide +kernel)) (by decide) hc_z
  replace hc_z := rn_sipush (w := 999) (am_cur_of (i := (12, 3, .sipush 999, (0, 0, 0), 0)) (by decide +kernel)) (by decide) hc_z
  replace hc_z := rn_callV (M' := am_m30) (o := 44) (ar := [.int 999, .int 0]) (rest := [.ref 23]) (L := lv_args 0 [.ref 44, .int 0, .int 999]) (am_cur_of (i := (15, 3, .invokevirtual 142, (30, 773, 3), 0)) (by decide +kernel)) rfl rfl rfl rfl hc_z
  obtain ⟨r610_z, h611_z, q612_z, hc_z⟩ := hc_z
  have q613_z := rd_of (a := 30) (by decide) rfl q612_z
  obtain ⟨v614_z, rfl, lv614_z, uv614_z⟩ := sd_30 (by decide) q612_z
  have D615 : h611_z 44 6 = .ref 23 := q613_z.2.trans D609
  replace hc_z : rn _ _ _ _ [.int v614_z, .ref 23] _ _ _ := hc_z
  replace hc_z := rn_put (am_cur_of (i := (18, 3, .putfield 235, (1, 16, 307), 0)) (by decide +kernel)) (by decide +kernel) hc_z
  replace hc_z := rn_vret (am_cur_of (i := (21, 1, .return_, (0, 0, 0), 0)) (by decide +kernel)) hc_z
  obtain ⟨e616_z, e617_z⟩ := hc_z
  replace e617_z := e617_z.symm
  subst e617_z
  refine ⟨?_, ((up_ne (by omega)).trans (D615))⟩
  exact ⟨pv1_e (fun o k q => ((rg_v_other (by omega)).trans ((rd_v q613_z (by omega)).trans ((rd_v q608_z (by omega)).trans (rfl))))) v1_z, pv2_e VV.2.2.2.2.2.2 (fun o k q => ((rg_v_other (by omega)).trans ((rd_v q613_z (by omega)).trans ((rd_v q608_z (by omega)).trans (rfl))))) v2_z, pv3_e (fun o k q => ((rg_v_other (by omega)).trans ((rd_v q613_z (by omega)).trans ((rd_v q608_z (by omega)).trans (rfl))))) v3_z, pv4_e (fun o k q => ((rg_v_other (by omega)).trans ((rd_v q613_z (by omega)).trans ((rd_v q608_z (by omega)).trans (rfl))))) v4_z, pv5_e (fun o k q => ((rg_v_other (by omega)).trans ((rd_v q613_z (by omega)).trans ((rd_v q608_z (by omega)).trans (rfl))))) v5_z, pv6_e (fun o k q => ((rg_v_other (by omega)).trans ((rd_v q613_z (by omega)).trans ((rd_v q608_z (by omega)).trans (rfl))))) v6_z, pv7_e (fun o k q => ((rg_v_other (by omega)).trans ((rd_v q613_z (by omega)).trans ((rd_v q608_z (by omega)).trans (rfl))))) VV.2.2.2.2.2.2⟩
theorem sd_41_23 {n : Nat} {r : Option Value} {h h' : am_H} (D : h 44 6 = .ref 23) (V : pv 23 h) (hc_z : rn n am_m41 0 (lv_args 0 [.ref 44]) [] h r h') : pv 23 h' ∧ h' 44 6 = .ref 23 := by
  have z0_z : (0 : Int32).toInt = 0 := by decide
  have z99999_z : (99999 : Int32).toInt = 99999 := by decide
  have g0_z : am_get (lv_args 0 [.ref 44]) 0 = some (.ref 44) := rfl
  have VV := V
  obtain ⟨v1_z, v2_z, v3_z, v4_z, v5_z, v6_z, ⟨n0_z, n4_z⟩, ⟨t0_z, t8_z⟩, ⟨l0_z, l6_z⟩, ⟨r0_z, r3_z⟩⟩ := V
  replace hc_z := rn_aload_n (am_cur_of (i := (0, 1, .aload_n 0, (0, 0, 0), 0)) (by decide +kernel)) g0_z hc_z
  replace hc_z := rn_bipush (w := 7) (am_cur_of (i := (1, 2, .bipush 7, (0, 0, 0), 0)) (by decide +kernel)) (by decide) hc_z
  replace hc_z := rn_callV (M' := am_m28) (o := 44) (ar := [.int 7]) (rest := []) (L := lv_args 0 [.ref 44, .int 7]) (am_cur_of (i := (3, 3, .invokevirtual 139, (28, 765, 3), 0)) (by decide +kernel)) rfl rfl rfl rfl hc_z
  obtain ⟨r618_z, h619_z, q620_z, hc_z⟩ := hc_z
  have q621_z := rd_of (a := 28) (by decide) rfl q620_z
  have vo := rn_void rfl q620_z
  subst vo
  have D622 : h619_z 44 6 = .ref 23 := q621_z.2.trans D
  replace hc_z : rn _ _ _ _ [] _ _ _ := hc_z
  replace hc_z := rn_aload_n (am_cur_of (i := (6, 1, .aload_n 0, (0, 0, 0), 0)) (by decide +kernel)) g0_z hc_z
  replace hc_z := rn_getM (x := 23) (am_cur_of (i := (7, 3, .getfield 25, (4, 6, 415), 0)) (by decide +kernel)) D622 hc_z
  replace hc_z := rn_aload_n (am_cur_of (i := (10, 1, .aload_n 0, (0, 0, 0), 0)) (by decide +kernel)) g0_z hc_z
  replace hc_z := rn_iconst (w := 0) (am_cur_of (i := (11, 1, .iconst 0, (0, 0, 0), 0)) (by decide +kernel)) (by decide) hc_z
  replace hc_z := rn_ldc (w := 99999) (am_cur_of (i := (12, 2, .ldc 238, (0, 0, 821), 99999)) (by decide +kernel)) (by decide) hc_z
  replace hc_z := rn_callV (M' := am_m30) (o := 44) (ar := [.int 99999, .int 0]) (rest := [.ref 23]) (L := lv_args 0 [.ref 44, .int 0, .int 99999]) (am_cur_of (i := (14, 3, .invokevirtual 142, (30, 773, 3), 0)) (by decide +kernel)) rfl rfl rfl rfl hc_z
  obtain ⟨r623_z, h624_z, q625_z, hc_z⟩ := hc_z
  have q626_z := rd_of (a := 30) (by decide) rfl q625_z
  obtain ⟨v627_z, rfl, lv627_z, uv627_z⟩ := sd_30 (by decide) q625_z
  have D628 : h624_z 44 6 = .ref 23 := q626_z.2.trans D622
  replace hc_z : rn _ _ _ _ [.int v627_z, .ref 23] _ _ _ := hc_z
  replace hc_z := rn_put (am_cur_of (i := (17, 3, .putfield 239, (1, 17, 310), 0)) (by decide +kernel)) (by decide +kernel) hc_z
  replace hc_z := rn_vret (am_cur_of (i := (20, 1, .return_, (0, 0, 0), 0)) (by decide +kernel)) hc_z
  obtain ⟨e629_z, e630_z⟩ := hc_z
  replace e630_z := e630_z.symm
  subst e630_z
  refine ⟨?_, ((up_ne (by omega)).trans (D628))⟩
  exact ⟨pv1_e (fun o k q => ((rg_v_other (by omega)).trans ((rd_v q626_z (by omega)).trans ((rd_v q621_z (by omega)).trans (rfl))))) v1_z, pv2_e VV.2.2.2.2.2.2 (fun o k q => ((rg_v_other (by omega)).trans ((rd_v q626_z (by omega)).trans ((rd_v q621_z (by omega)).trans (rfl))))) v2_z, pv3_e (fun o k q => ((rg_v_other (by omega)).trans ((rd_v q626_z (by omega)).trans ((rd_v q621_z (by omega)).trans (rfl))))) v3_z, pv4_e (fun o k q => ((rg_v_other (by omega)).trans ((rd_v q626_z (by omega)).trans ((rd_v q621_z (by omega)).trans (rfl))))) v4_z, pv5_e (fun o k q => ((rg_v_other (by omega)).trans ((rd_v q626_z (by omega)).trans ((rd_v q621_z (by omega)).trans (rfl))))) v5_z, pv6_e (fun o k q => ((rg_v_other (by omega)).trans ((rd_v q626_z (by omega)).trans ((rd_v q621_z (by omega)).trans (rfl))))) v6_z, pv7_e (fun o k q => ((rg_v_other (by omega)).trans ((rd_v q626_z (by omega)).trans ((rd_v q621_z (by omega)).trans (rfl))))) VV.2.2.2.2.2.2⟩
/-- a law that is read -/
def ek_A (d o : Nat) : Bool := Nat.beq o d || (Nat.ble (d + 9) o && Nat.ble o (d + 16)) || Nat.beq o 1 || (Nat.ble 44 o && Nat.ble o 47)
def ek_fl (ci_z f : Nat) : Bool := (Nat.beq ci_z 4 || Nat.beq ci_z 2 || (Nat.beq ci_z 1 && Nat.beq f 19)) && Nat.blt f (am_tys ci_z).length && Nat.ble f 19
def ek_ok (a : Nat) : Bool := (Nat.ble 42 a && Nat.ble a 52) || (Nat.ble 19 a && Nat.ble a 25) || Nat.beq a 29
def ek_w (d : Nat) : ra_W := (ek_A d, ek_fl, ek_ok)
set_option maxRecDepth 1000000 in
theorem ek_all {d : Nat} (hd_z : d = 2 ∨ d = 23) : (List.range 256).all (ra_Mb (ek_w d)) = true := by
  rcases hd_z with rfl | rfl
  · decide +kernel
  · decide +kernel
def ek_cl (d o : Nat) : Bool := !(ek_A d o) || (match am_ks0[o]? with
  | some (.inl ci_z) => (List.range 20).all (fun f => !(ek_fl ci_z f) || (Nat.ble (rg_c o f) 2 || (Nat.ble 4 (rg_c o f) && ek_A d (rg_c o f - 4)) || (Nat.beq o 44 && (Nat.beq f 4 || Nat.beq f 6))))
  | some (.inr (_, n)) => (List.range n).all (fun k => Nat.ble (rg_c o k) 2 || (Nat.ble 4 (rg_c o k) && ek_A d (rg_c o k - 4)))
  | none => true)
set_option maxRecDepth 1000000 in
theorem ek_clall {d : Nat} (hd_z : d = 2 ∨ d = 23) : (List.range 203).all (ek_cl d) = true := by
  rcases hd_z with rfl | rfl
  · decide +kernel
  · decide +kernel
theorem ek_P {h : am_H} {d : Nat} (hd_z : d = 2 ∨ d = 23) (e4_z : h 44 4 = .ref 1) (e6_z : h 44 6 = .ref d) (hG : rg_Gd h) : ra_P (ek_w d) h h := by
  have hb_z : ∀ o, am_ks0[o]? ≠ none → ek_cl d o = true := by
    intro o ho
    have hl_z : o < am_ks0.length := by
      cases q : am_ks0[o]? with
      | none => exact absurd q ho
      | some kd => exact (List.getElem?_eq_some_iff.mp q).1
    rw [rg_len] at hl_z
    exact List.all_eq_true.mp (ek_clall hd_z) o (List.mem_range.mpr hl_z)
  refine ⟨fun o ci_z f n ho hk_z hf_z e => ?_, fun o ty N k n ho hk_z hN e => ?_, fun _ _ _ => rfl⟩
  · have q := hb_z o (by rw [hk_z]; exact fun z => by cases z)
    unfold ek_cl at q
    have ho' : ek_A d o = true := ho
    have hf_z' : ek_fl ci_z f = true := hf_z
    rw [ho', hk_z] at q
    have hf2_z : Nat.ble f 19 = true ∧ Nat.blt f (am_tys ci_z).length = true := by
      unfold ek_fl at hf_z'
      simp only [Bool.and_eq_true] at hf_z'
      exact ⟨hf_z'.2, hf_z'.1.2⟩
    have q2_z := List.all_eq_true.mp q f (List.mem_range.mpr (by have := Nat.le_of_ble_eq_true hf2_z.1; omega))
    rw [hf_z'] at q2_z
    have hg := hG o f _ hk_z (Nat.le_of_ble_eq_true hf2_z.2)
    have q3_z : (Nat.ble (rg_c o f) 2 || (Nat.ble 4 (rg_c o f) && ek_A d (rg_c o f - 4)) || (Nat.beq o 44 && (Nat.beq f 4 || Nat.beq f 6))) = true := q2_z
    rw [Bool.or_eq_true] at q3_z
    rcases q3_z with q3_z | q3_z
    · rcases rg_gref hg e with c | c
      · rw [c] at q3_z
        exact absurd (show false = true from q3_z) (by decide)
      · rw [c] at q3_z
        rw [Bool.or_eq_true, Bool.and_eq_true] at q3_z
        rcases q3_z with q3_z | q3_z
        · have := Nat.le_of_ble_eq_true q3_z
          omega
        · have q4_z := q3_z.2
          rw [Nat.add_sub_cancel] at q4_z
          exact q4_z
    · rw [Bool.and_eq_true, Bool.or_eq_true] at q3_z
      have z0_z := Nat.eq_of_beq_eq_true q3_z.1
      subst z0_z
      rcases q3_z.2 with z | z
      · have z1_z := Nat.eq_of_beq_eq_true z
        subst z1_z
        rw [e4_z] at e
        cases e
        rcases hd_z with rfl | rfl <;> rfl
      · have z1_z := Nat.eq_of_beq_eq_true z
        subst z1_z
        rw [e6_z] at e
        cases e
        rcases hd_z with rfl | rfl <;> rfl
  · have q := hb_z o (by rw [hk_z]; exact fun z => by cases z)
    unfold ek_cl at q
    have ho' : ek_A d o = true := ho
    rw [ho', hk_z] at q
    have q2_z := List.all_eq_true.mp q k (List.mem_range.mpr hN)
    have hg := hG o k _ hk_z hN
    have q3_z : (Nat.ble (rg_c o k) 2 || (Nat.ble 4 (rg_c o k) && ek_A d (rg_c o k - 4))) = true := q2_z
    rcases rg_gref hg e with c | c
    · rw [c] at q3_z
      exact absurd (show false = true from q3_z) (by decide)
    · rw [c] at q3_z
      rw [Bool.or_eq_true, Bool.and_eq_true] at q3_z
      rcases q3_z with q3_z | q3_z
      · have := Nat.le_of_ble_eq_true q3_z
        omega
      · have q4_z := q3_z.2
        rw [Nat.add_sub_cancel] at q4_z
        exact q4_z
/-- the reader's tape and plan stay its own -/
def r4_ok (a : Nat) : Bool := Nat.ble 19 a && Nat.ble a 53
def r4_w : rw_W := (fun ci_z f => !(Nat.beq (rg_cl ci_z f) 9) && !(Nat.beq ci_z 4 && (Nat.beq f 4 || Nat.beq f 6)), true, r4_ok)
def r4_P (x y : Value) (h : am_H) : Prop := rg_Gd h ∧ h 44 4 = x ∧ h 44 6 = y
theorem r4_wP (x y : Value) : rw_P r4_w (r4_P x y) := by
  refine ⟨fun h o ci_z f u hP hk_z hc_z hf_z => ?_, fun _ h o r n ty u hP hk_z ht hq_z hf_z => ?_⟩
  · have hc_z' : (!(Nat.beq (rg_cl ci_z f) 9) && !(Nat.beq ci_z 4 && (Nat.beq f 4 || Nat.beq f 6))) = true := hc_z
    rw [Bool.and_eq_true] at hc_z'
    refine ⟨rn_wP.1 h o ci_z f u hP.1 hk_z hc_z'.1 hf_z, ?_, ?_⟩
    · rw [up_ne]
      · exact hP.2.1
      · rintro ⟨e1_z, e2_z⟩
        subst e1_z; subst e2_z
        rw [rs_k44] at hk_z
        cases hk_z
        exact absurd hc_z'.2 (by decide)
    · rw [up_ne]
      · exact hP.2.2
      · rintro ⟨e1_z, e2_z⟩
        subst e1_z; subst e2_z
        rw [rs_k44] at hk_z
        cases hk_z
        exact absurd hc_z'.2 (by decide)
  · have hne : ∀ k, ¬ ((44 : Nat) = o ∧ k = r) := by
      rintro k ⟨e1_z, -⟩
      subst e1_z
      rw [rs_k44] at hk_z
      cases hk_z
    exact ⟨rn_wP.2 rfl h o r n ty u hP.1 hk_z ht hq_z hf_z, (up_ne (hne 4)).trans hP.2.1, (up_ne (hne 6)).trans hP.2.2⟩
def r4_M (a : Nat) : Bool := !(r4_ok a) || (match am_prog[a]? with
  | some M => M.2.2.2.all (rw_I r4_w)
  | none => true)
set_option maxRecDepth 1000000 in
theorem r4_M_all : (List.range 256).all r4_M = true := by decide +kernel
theorem r4_K {a : Nat} {M : am_M} (ha_z : r4_ok a = true) (hM : am_prog[a]? = some M) : rw_K r4_w M.2.2.2 := by
  have hl_z : a < am_prog.length := (List.getElem?_eq_some_iff.mp hM).1
  rw [am_prog_len] at hl_z
  have hb_z := List.all_eq_true.mp r4_M_all a (List.mem_range.mpr (by omega))
  unfold r4_M at hb_z
  rw [ha_z, hM] at hb_z
  exact List.all_eq_true.mp hb_z
theorem r4_of {a n : Nat} {M : am_M} {as : List Value} {h h' : am_H} {r : Option Value} (ha_z : r4_ok a = true) (hM : am_prog[a]? = some M) (hr : rn n M 0 (lv_args 0 as) [] h r h') : h' 44 4 = h 44 4 ∧ h' 44 6 = h 44 6 := by
  obtain ⟨-, hG, nc, ns, m, -, hrun⟩ := hr
  exact (rw_run (r4_wP (h 44 4) (h 44 6)) (fun a M ha_z hM => Or.inl (r4_K ha_z hM)) m M _ _ _ h nc ns _ (r4_K ha_z hM) (fun j hj_z => r4_K ha_z hM j (List.mem_of_mem_drop hj_z)) ⟨hG, rfl, rfl⟩ hrun).2.2
set_option maxRecDepth 1000000 in
theorem ek_1all : (List.range 256).all (rf_M 1 ek_ok) = true := by decide +kernel
theorem ek_Af {d o : Nat} (hd_z : d = 2 ∨ d = 23) (ho : (d + 2 ≤ o ∧ o ≤ d + 8) ∨ (d + 17 ≤ o ∧ o ≤ d + 20)) : ek_A d o = false := by
  cases q : ek_A d o with
  | false => rfl
  | true =>
    exfalso
    unfold ek_A at q
    rw [Bool.or_eq_true, Bool.or_eq_true, Bool.or_eq_true, Bool.and_eq_true, Bool.and_eq_true] at q
    rcases q with ((a | ⟨a, b⟩) | a) | ⟨a, b⟩
    · have a2_z := Nat.eq_of_beq_eq_true a
      omega
    · have a2_z := Nat.le_of_ble_eq_true a
      have b2_z := Nat.le_of_ble_eq_true b
      omega
    · have a2_z := Nat.eq_of_beq_eq_true a
      omega
    · have a2_z := Nat.le_of_ble_eq_true a
      have b2_z := Nat.le_of_ble_eq_true b
      omega
theorem sd_42_2 {n : Nat} {r : Option Value} {h h' : am_H} (D4 : h 44 4 = .ref 1) (D : h 44 6 = .ref 2) (V : pv 2 h) (hc_z : rn n am_m42 0 (lv_args 0 [.ref 44]) [] h r h') : pv 2 h' := by
  refine pv_e (fun o k q => ?_) V
  have f := ra_rn (w := ek_w 2) (ek_all (by decide)) (a := 42) (by decide) rfl (ra_Sc (fun n e => by cases e; rfl) ra_S0) (ek_P (by decide) D4 D (rn_G hc_z)) hc_z
  have q2_z : (o = 2 ∧ ¬ k = 18) ∨ (2 + 2 ≤ o ∧ o ≤ 2 + 8) ∨ (2 + 17 ≤ o ∧ o ≤ 2 + 20) := q
  unfold rg_v
  rcases q2_z with ⟨e, -⟩ | q2_z
  · rw [e, rf_keep (c := 1) (by decide +kernel) ek_1all (a := 42) (by decide) rfl hc_z k]
  · rw [f o k (ek_Af (by decide) q2_z)]
theorem sd_26_2 {n : Nat} {r : Option Value} {h h' : am_H} (D4 : h 44 4 = .ref 1) (D : h 44 6 = .ref 2) (V : pv 2 h) (hc_z : rn n am_m26 0 (lv_args 0 [.ref 44]) [] h r h') : pv 2 h' := by
  have z2_z : (2 : Int32).toInt = 2 := by decide
  have g0_z : am_get (lv_args 0 [.ref 44]) 0 = some (.ref 44) := rfl
  replace hc_z := rn_aload_n (am_cur_of (i := (0, 1, .aload_n 0, (0, 0, 0), 0)) (by decide +kernel)) g0_z hc_z
  replace hc_z := rn_getI (v := rg_v h 44 10) (am_cur_of (i := (1, 3, .getfield 60, (4, 10, 419), 0)) (by decide +kernel)) (by decide +kernel) rfl hc_z
  replace hc_z := rn_iconst (w := 2) (am_cur_of (i := (4, 1, .iconst 2, (0, 0, 0), 0)) (by decide +kernel)) (by decide) hc_z
  replace hc_z := rn_cmp (am_cur_of (i := (5, 3, .if_icmp .ne 10, (7, 0, 0), 0)) (by decide +kernel)) hc_z
  rcases hc_z with ⟨b631_z, hc_z⟩ | ⟨b631_z, hc_z⟩
  · replace b631_z : ¬ (rg_v h 44 10) = (2 : Int32) ∧ ¬ (rg_v h 44 10).toInt = (2 : Int32).toInt := b631_z
    replace hc_z := rn_iconst (w := (-1)) (am_cur_of (i := (15, 1, .iconst (-1), (0, 0, 0), 0)) (by decide +kernel)) (by decide) hc_z
    replace hc_z := rn_swO (a := 36) (am_cur_of (i := (16, 52, .tableswitch 115 0 8 #[52, 59, 66, 73, 80, 87, 94, 101, 108], (0, 0, 0), 0)) (by decide +kernel)) (by decide) (by decide +kernel) hc_z
    replace hc_z := rn_aload_n (am_cur_of (i := (131, 1, .aload_n 0, (0, 0, 0), 0)) (by decide +kernel)) g0_z hc_z
    replace hc_z := rn_iconst (w := 1) (am_cur_of (i := (132, 1, .iconst 1, (0, 0, 0), 0)) (by decide +kernel)) (by decide) hc_z
    replace hc_z := rn_callV (M' := am_m29) (o := 44) (ar := [.int 1]) (rest := []) (L := lv_args 0 [.ref 44, .int 1]) (am_cur_of (i := (133, 3, .invokevirtual 108, (29, 769, 3), 0)) (by decide +kernel)) rfl rfl rfl rfl hc_z
    obtain ⟨r632_z, h633_z, q634_z, hc_z⟩ := hc_z
    have vo := rn_void rfl q634_z
    subst vo
    have pp := pv_rd (by decide) (rd_of (a := 29) (by decide) rfl q634_z) V
    replace hc_z : rn _ _ _ _ [] _ _ _ := hc_z
    replace hc_z := rn_vret (am_cur_of (i := (136, 1, .return_, (0, 0, 0), 0)) (by decide +kernel)) hc_z
    obtain ⟨e635_z, e636_z⟩ := hc_z
    rw [e636_z]
    exact pp
  · replace b631_z : (rg_v h 44 10) = (2 : Int32) ∧ (rg_v h 44 10).toInt = (2 : Int32).toInt := b631_z
    replace hc_z := rn_aload_n (am_cur_of (i := (8, 1, .aload_n 0, (0, 0, 0), 0)) (by decide +kernel)) g0_z hc_z
    replace hc_z := rn_getI (v := rg_v h 44 11) (am_cur_of (i := (9, 3, .getfield 91, (4, 11, 420), 0)) (by decide +kernel)) (by decide +kernel) rfl hc_z
    replace hc_z := rn_goto (am_cur_of (i := (12, 3, .goto 4, (8, 0, 0), 0)) (by decide +kernel)) hc_z
    by_cases v637_z : (rg_v h 44 11) = 0
    · replace hc_z := rn_swI (off := 52) (a := 9) (am_cur_of (i := (16, 52, .tableswitch 115 0 8 #[52, 59, 66, 73, 80, 87, 94, 101, 108], (0, 0, 0), 0)) (by decide +kernel)) (by rw [v637_z]; decide) (by rw [v637_z]; decide) (by decide +kernel) hc_z
      replace hc_z := rn_aload_n (am_cur_of (i := (68, 1, .aload_n 0, (0, 0, 0), 0)) (by decide +kernel)) g0_z hc_z
      replace hc_z := rn_callV (M' := am_m27) (o := 44) (ar := []) (rest := []) (L := lv_args 0 [.ref 44]) (am_cur_of (i := (69, 3, .invokevirtual 112, (27, 761, 3), 0)) (by decide +kernel)) rfl rfl rfl rfl hc_z
      obtain ⟨r638_z, h639_z, q640_z, hc_z⟩ := hc_z
      have vo := rn_void rfl q640_z
      subst vo
      have pp := (sd_27_2 D V q640_z).1
      replace hc_z : rn _ _ _ _ [] _ _ _ := hc_z
      replace hc_z := rn_goto (am_cur_of (i := (72, 3, .goto 64, (39, 0, 0), 0)) (by decide +kernel)) hc_z
      replace hc_z := rn_vret (am_cur_of (i := (136, 1, .return_, (0, 0, 0), 0)) (by decide +kernel)) hc_z
      obtain ⟨e641_z, e642_z⟩ := hc_z
      rw [e642_z]
      exact pp
    by_cases v643_z : (rg_v h 44 11) = 1
    · replace hc_z := rn_swI (off := 59) (a := 12) (am_cur_of (i := (16, 52, .tableswitch 115 0 8 #[52, 59, 66, 73, 80, 87, 94, 101, 108], (0, 0, 0), 0)) (by decide +kernel)) (by rw [v643_z]; decide) (by rw [v643_z]; decide) (by decide +kernel) hc_z
      replace hc_z := rn_aload_n (am_cur_of (i := (75, 1, .aload_n 0, (0, 0, 0), 0)) (by decide +kernel)) g0_z hc_z
      replace hc_z := rn_callV (M' := am_m31) (o := 44) (ar := []) (rest := []) (L := lv_args 0 [.ref 44]) (am_cur_of (i := (76, 3, .invokevirtual 115, (31, 777, 3), 0)) (by decide +kernel)) rfl rfl rfl rfl hc_z
      obtain ⟨r644_z, h645_z, q646_z, hc_z⟩ := hc_z
      have vo := rn_void rfl q646_z
      subst vo
      have pp := (sd_31_2 D V q646_z).1
      replace hc_z : rn _ _ _ _ [] _ _ _ := hc_z
      replace hc_z := rn_goto (am_cur_of (i := (79, 3, .goto 57, (39, 0, 0), 0)) (by decide +kernel)) hc_z
      replace hc_z := rn_vret (am_cur_of (i := (136, 1, .return_, (0, 0, 0), 0)) (by decide +kernel)) hc_z
      obtain ⟨e647_z, e648_z⟩ := hc_z
      rw [e648_z]
      exact pp
    by_cases v649_z : (rg_v h 44 11) = 2
    · replace hc_z := rn_swI (off := 66) (a := 15) (am_cur_of (i := (16, 52, .tableswitch 115 0 8 #[52, 59, 66, 73, 80, 87, 94, 101, 108], (0, 0, 0), 0)) (by decide +kernel)) (by rw [v649_z]; decide) (by rw [v649_z]; decide) (by decide +kernel) hc_z
      replace hc_z := rn_aload_n (am_cur_of (i := (82, 1, .aload_n 0, (0, 0, 0), 0)) (by decide +kernel)) g0_z hc_z
      replace hc_z := rn_callV (M' := am_m35) (o := 44) (ar := []) (rest := []) (L := lv_args 0 [.ref 44]) (am_cur_of (i := (83, 3, .invokevirtual 118, (35, 793, 3), 0)) (by decide +kernel)) rfl rfl rfl rfl hc_z
      obtain ⟨r650_z, h651_z, q652_z, hc_z⟩ := hc_z
      have vo := rn_void rfl q652_z
      subst vo
      have pp := (sd_35_2 D V q652_z).1
      replace hc_z : rn _ _ _ _ [] _ _ _ := hc_z
      replace hc_z := rn_goto (am_cur_of (i := (86, 3, .goto 50, (39, 0, 0), 0)) (by decide +kernel)) hc_z
      replace hc_z := rn_vret (am_cur_of (i := (136, 1, .return_, (0, 0, 0), 0)) (by decide +kernel)) hc_z
      obtain ⟨e653_z, e654_z⟩ := hc_z
      rw [e654_z]
      exact pp
    by_cases v655_z : (rg_v h 44 11) = 3
    · replace hc_z := rn_swI (off := 73) (a := 18) (am_cur_of (i := (16, 52, .tableswitch 115 0 8 #[52, 59, 66, 73, 80, 87, 94, 101, 108], (0, 0, 0), 0)) (by decide +kernel)) (by rw [v655_z]; decide) (by rw [v655_z]; decide) (by decide +kernel) hc_z
      replace hc_z := rn_aload_n (am_cur_of (i := (89, 1, .aload_n 0, (0, 0, 0), 0)) (by decide +kernel)) g0_z hc_z
      replace hc_z := rn_callV (M' := am_m36) (o := 44) (ar := []) (rest := []) (L := lv_args 0 [.ref 44]) (am_cur_of (i := (90, 3, .invokevirtual 121, (36, 797, 3), 0)) (by decide +kernel)) rfl rfl rfl rfl hc_z
      obtain ⟨r656_z, h657_z, q658_z, hc_z⟩ := hc_z
      have vo := rn_void rfl q658_z
      subst vo
      have pp := (sd_36_2 D V q658_z).1
      replace hc_z : rn _ _ _ _ [] _ _ _ := hc_z
      replace hc_z := rn_goto (am_cur_of (i := (93, 3, .goto 43, (39, 0, 0), 0)) (by decide +kernel)) hc_z
      replace hc_z := rn_vret (am_cur_of (i := (136, 1, .return_, (0, 0, 0), 0)) (by decide +kernel)) hc_z
      obtain ⟨e659_z, e660_z⟩ := hc_z
      rw [e660_z]
      exact pp
    by_cases v661_z : (rg_v h 44 11) = 4
    · replace hc_z := rn_swI (off := 80) (a := 21) (am_cur_of (i := (16, 52, .tableswitch 115 0 8 #[52, 59, 66, 73, 80, 87, 94, 101, 108], (0, 0, 0), 0)) (by decide +kernel)) (by rw [v661_z]; decide) (by rw [v661_z]; decide) (by decide +kernel) hc_z
      replace hc_z := rn_aload_n (am_cur_of (i := (96, 1, .aload_n 0, (0, 0, 0), 0)) (by decide +kernel)) g0_z hc_z
      replace hc_z := rn_callV (M' := am_m37) (o := 44) (ar := []) (rest := []) (L := lv_args 0 [.ref 44]) (am_cur_of (i := (97, 3, .invokevirtual 124, (37, 801, 3), 0)) (by decide +kernel)) rfl rfl rfl rfl hc_z
      obtain ⟨r662_z, h663_z, q664_z, hc_z⟩ := hc_z
      have vo := rn_void rfl q664_z
      subst vo
      have pp := (sd_37_2 D V q664_z).1
      replace hc_z : rn _ _ _ _ [] _ _ _ := hc_z
      replace hc_z := rn_goto (am_cur_of (i := (100, 3, .goto 36, (39, 0, 0), 0)) (by decide +kernel)) hc_z
      replace hc_z := rn_vret (am_cur_of (i := (136, 1, .return_, (0, 0, 0), 0)) (by decide +kernel)) hc_z
      obtain ⟨e665_z, e666_z⟩ := hc_z
      rw [e666_z]
      exact pp
    by_cases v667_z : (rg_v h 44 11) = 5
    · replace hc_z := rn_swI (off := 87) (a := 24) (am_cur_of (i := (16, 52, .tableswitch 115 0 8 #[52, 59, 66, 73, 80, 87, 94, 101, 108], (0, 0, 0), 0)) (by decide +kernel)) (by rw [v667_z]; decide) (by rw [v667_z]; decide) (by decide +kernel) hc_z
      replace hc_z := rn_aload_n (am_cur_of (i := (103, 1, .aload_n 0, (0, 0, 0), 0)) (by decide +kernel)) g0_z hc_z
      replace hc_z := rn_callV (M' := am_m38) (o := 44) (ar := []) (rest := []) (L := lv_args 0 [.ref 44]) (am_cur_of (i := (104, 3, .invokevirtual 127, (38, 805, 3), 0)) (by decide +kernel)) rfl rfl rfl rfl hc_z
      obtain ⟨r668_z, h669_z, q670_z, hc_z⟩ := hc_z
      have vo := rn_void rfl q670_z
      subst vo
      have pp := (sd_38_2 D V q670_z).1
      replace hc_z : rn _ _ _ _ [] _ _ _ := hc_z
      replace hc_z := rn_goto (am_cur_of (i := (107, 3, .goto 29, (39, 0, 0), 0)) (by decide +kernel)) hc_z
      replace hc_z := rn_vret (am_cur_of (i := (136, 1, .return_, (0, 0, 0), 0)) (by decide +kernel)) hc_z
      obtain ⟨e671_z, e672_z⟩ := hc_z
      rw [e672_z]
      exact pp
    by_cases v673_z : (rg_v h 44 11) = 6
    · replace hc_z := rn_swI (off := 94) (a := 27) (am_cur_of (i := (16, 52, .tableswitch 115 0 8 #[52, 59, 66, 73, 80, 87, 94, 101, 108], (0, 0, 0), 0)) (by decide +kernel)) (by rw [v673_z]; decide) (by rw [v673_z]; decide) (by decide +kernel) hc_z
      replace hc_z := rn_aload_n (am_cur_of (i := (110, 1, .aload_n 0, (0, 0, 0), 0)) (by decide +kernel)) g0_z hc_z
      replace hc_z := rn_callV (M' := am_m40) (o := 44) (ar := []) (rest := []) (L := lv_args 0 [.ref 44]) (am_cur_of (i := (111, 3, .invokevirtual 130, (40, 813, 3), 0)) (by decide +kernel)) rfl rfl rfl rfl hc_z
      obtain ⟨r674_z, h675_z, q676_z, hc_z⟩ := hc_z
      have vo := rn_void rfl q676_z
      subst vo
      have pp := (sd_40_2 D V q676_z).1
      replace hc_z : rn _ _ _ _ [] _ _ _ := hc_z
      replace hc_z := rn_goto (am_cur_of (i := (114, 3, .goto 22, (39, 0, 0), 0)) (by decide +kernel)) hc_z
      replace hc_z := rn_vret (am_cur_of (i := (136, 1, .return_, (0, 0, 0), 0)) (by decide +kernel)) hc_z
      obtain ⟨e677_z, e678_z⟩ := hc_z
      rw [e678_z]
      exact pp
    by_cases v679_z : (rg_v h 44 11) = 7
    · replace hc_z := rn_swI (off := 101) (a := 30) (am_cur_of (i := (16, 52, .tableswitch 115 0 8 #[52, 59, 66, 73, 80, 87, 94, 101, 108], (0, 0, 0), 0)) (by decide +kernel)) (by rw [v679_z]; decide) (by rw [v679_z]; decide) (by decide +kernel) hc_z
      replace hc_z := rn_aload_n (am_cur_of (i := (117, 1, .aload_n 0, (0, 0, 0), 0)) (by decide +kernel)) g0_z hc_z
      replace hc_z := rn_callV (M' := am_m41) (o := 44) (ar := []) (rest := []) (L := lv_args 0 [.ref 44]) (am_cur_of (i := (118, 3, .invokevirtual 133, (41, 817, 3), 0)) (by decide +kernel)) rfl rfl rfl rfl hc_z
      obtain ⟨r680_z, h681_z, q682_z, hc_z⟩ := hc_z
      have vo := rn_void rfl q682_z
      subst vo
      have pp := (sd_41_2 D V q682_z).1
      replace hc_z : rn _ _ _ _ [] _ _ _ := hc_z
      replace hc_z := rn_goto (am_cur_of (i := (121, 3, .goto 15, (39, 0, 0), 0)) (by decide +kernel)) hc_z
      replace hc_z := rn_vret (am_cur_of (i := (136, 1, .return_, (0, 0, 0), 0)) (by decide +kernel)) hc_z
      obtain ⟨e683_z, e684_z⟩ := hc_z
      rw [e684_z]
      exact pp
    by_cases v685_z : (rg_v h 44 11) = 8
    · replace hc_z := rn_swI (off := 108) (a := 33) (am_cur_of (i := (16, 52, .tableswitch 115 0 8 #[52, 59, 66, 73, 80, 87, 94, 101, 108], (0, 0, 0), 0)) (by decide +kernel)) (by rw [v685_z]; decide) (by rw [v685_z]; decide) (by decide +kernel) hc_z
      replace hc_z := rn_aload_n (am_cur_of (i := (124, 1, .aload_n 0, (0, 0, 0), 0)) (by decide +kernel)) g0_z hc_z
      replace hc_z := rn_callV (M' := am_m42) (o := 44) (ar := []) (rest := []) (L := lv_args 0 [.ref 44]) (am_cur_of (i := (125, 3, .invokevirtual 136, (42, 822, 3), 0)) (by decide +kernel)) rfl rfl rfl rfl hc_z
      obtain ⟨r686_z, h687_z, q688_z, hc_z⟩ := hc_z
      have vo := rn_void rfl q688_z
      subst vo
      have pp := sd_42_2 D4 D V q688_z
      replace hc_z : rn _ _ _ _ [] _ _ _ := hc_z
      replace hc_z := rn_goto (am_cur_of (i := (128, 3, .goto 8, (39, 0, 0), 0)) (by decide +kernel)) hc_z
      replace hc_z := rn_vret (am_cur_of (i := (136, 1, .return_, (0, 0, 0), 0)) (by decide +kernel)) hc_z
      obtain ⟨e689_z, e690_z⟩ := hc_z
      rw [e690_z]
      exact pp
    have hsw : ∀ m, m < 9 → (m = 0 ∨ m = 1 ∨ m = 2 ∨ m = 3 ∨ m = 4 ∨ m = 5 ∨ m = 6 ∨ m = 7 ∨ m = 8 ∨ (#[52, 59, 66, 73, 80, 87, 94, 101, 108] : Array Int)[m]? = some 115) := by decide
    have wv637_z : ¬ (rg_v h 44 11).toInt = 0 := fun q => v637_z (Int32.toInt_inj.mp (q.trans (by decide)))
    have wv643_z : ¬ (rg_v h 44 11).toInt = 1 := fun q => v643_z (Int32.toInt_inj.mp (q.trans (by decide)))
    have wv649_z : ¬ (rg_v h 44 11).toInt = 2 := fun q => v649_z (Int32.toInt_inj.mp (q.trans (by decide)))
    have wv655_z : ¬ (rg_v h 44 11).toInt = 3 := fun q => v655_z (Int32.toInt_inj.mp (q.trans (by decide)))
    have wv661_z : ¬ (rg_v h 44 11).toInt = 4 := fun q => v661_z (Int32.toInt_inj.mp (q.trans (by decide)))
    have wv667_z : ¬ (rg_v h 44 11).toInt = 5 := fun q => v667_z (Int32.toInt_inj.mp (q.trans (by decide)))
    have wv673_z : ¬ (rg_v h 44 11).toInt = 6 := fun q => v673_z (Int32.toInt_inj.mp (q.trans (by decide)))
    have wv679_z : ¬ (rg_v h 44 11).toInt = 7 := fun q => v679_z (Int32.toInt_inj.mp (q.trans (by decide)))
    have wv685_z : ¬ (rg_v h 44 11).toInt = 8 := fun q => v685_z (Int32.toInt_inj.mp (q.trans (by decide)))
    have hx_z : (rg_v h 44 11).toInt < 0 ∨ 8 < (rg_v h 44 11).toInt ∨ (#[52, 59, 66, 73, 80, 87, 94, 101, 108] : Array Int)[((rg_v h 44 11).toInt - 0).toNat]? = some 115 := by
      by_cases q1_z : (rg_v h 44 11).toInt < 0
      · exact Or.inl q1_z
      · by_cases q2_z : 8 < (rg_v h 44 11).toInt
        · exact Or.inr (Or.inl q2_z)
        · refine Or.inr (Or.inr ?_)
          rcases hsw ((rg_v h 44 11).toInt - 0).toNat (by omega) with qq | qq | qq | qq | qq | qq | qq | qq | qq | qq <;> first | exact qq | (exfalso; omega)
    replace hc_z := rn_swX (a := 36) (am_cur_of (i := (16, 52, .tableswitch 115 0 8 #[52, 59, 66, 73, 80, 87, 94, 101, 108], (0, 0, 0), 0)) (by decide +kernel)) hx_z (by decide +kernel) hc_z
    replace hc_z := rn_aload_n (am_cur_of (i := (131, 1, .aload_n 0, (0, 0, 0), 0)) (by decide +kernel)) g0_z hc_z
    replace hc_z := rn_iconst (w := 1) (am_cur_of (i := (132, 1, .iconst 1, (0, 0, 0), 0)) (by decide +kernel)) (by decide) hc_z
    replace hc_z := rn_callV (M' := am_m29) (o := 44) (ar := [.int 1]) (rest := []) (L := lv_args 0 [.ref 44, .int 1]) (am_cur_of (i := (133, 3, .invokevirtual 108, (29, 769, 3), 0)) (by decide +kernel)) rfl rfl rfl rfl hc_z
    obtain ⟨r691_z, h692_z, q693_z, hc_z⟩ := hc_z
    have vo := rn_void rfl q693_z
    subst vo
    have pp := pv_rd (by decide) (rd_of (a := 29) (by decide) rfl q693_z) V
    replace hc_z : rn _ _ _ _ [] _ _ _ := hc_z
    replace hc_z := rn_vret (am_cur_of (i := (136, 1, .return_, (0, 0, 0), 0)) (by decide +kernel)) hc_z
    obtain ⟨e694_z, e695_z⟩ := hc_z
    rw [e695_z]
    exact pp
theorem sd_l2 {r : Option Value} {h' : am_H} : ∀ (f : Nat) (i : Int32) (ls : am_L) (h : am_H), h 44 4 = .ref 1 → h 44 6 = .ref 2 → pv 2 h → am_get ls 0 = some (.ref 44) → am_get ls 4 = some (.int i) → rn f am_m18 31 ls [] h r h' → pv 2 h' := by
  intro f
  induction f with
  | zero => intro i ls h D4 D V g0_z g4_z hc_z; exact absurd hc_z rn_0
  | succ f ih_z =>
    intro i ls h D4 D V g0_z g4_z hc_z
    have z0_z : (0 : Int32).toInt = 0 := by decide
    replace hc_z := rn_iload (am_cur_of (i := (54, 2, .iload 4, (0, 0, 0), 0)) (by decide +kernel)) g4_z hc_z
    replace hc_z := rn_aload_n (am_cur_of (i := (56, 1, .aload_n 0, (0, 0, 0), 0)) (by decide +kernel)) g0_z hc_z
    replace hc_z := rn_getI (v := rg_v h 44 5) (am_cur_of (i := (57, 3, .getfield 37, (4, 5, 414), 0)) (by decide +kernel)) (by decide +kernel) rfl hc_z
    replace hc_z := rn_cmp (am_cur_of (i := (60, 3, .if_icmp .ge 31, (47, 0, 0), 0)) (by decide +kernel)) hc_z
    rcases hc_z with ⟨b696_z, hc_z⟩ | ⟨b696_z, hc_z⟩
    · replace b696_z : (rg_v h 44 5).toInt ≤ i.toInt := b696_z
      replace hc_z := rn_aload_n (am_cur_of (i := (91, 1, .aload_n 0, (0, 0, 0), 0)) (by decide +kernel)) g0_z hc_z
      replace hc_z := rn_getI (v := rg_v h 44 1) (am_cur_of (i := (92, 3, .getfield 51, (4, 1, 408), 0)) (by decide +kernel)) (by decide +kernel) rfl hc_z
      replace hc_z := rn_if (am_cur_of (i := (95, 3, .ifCond .ne 10, (53, 0, 0), 0)) (by decide +kernel)) hc_z
      rcases hc_z with ⟨b697_z, hc_z⟩ | ⟨b697_z, hc_z⟩
      · replace b697_z : ¬ (rg_v h 44 1) = (0 : Int32) ∧ ¬ (rg_v h 44 1).toInt = (0 : Int32).toInt := b697_z
        replace hc_z := rn_aload_n (am_cur_of (i := (105, 1, .aload_n 0, (0, 0, 0), 0)) (by decide +kernel)) g0_z hc_z
        replace hc_z := rn_getI (v := rg_v h 44 1) (am_cur_of (i := (106, 3, .getfield 51, (4, 1, 408), 0)) (by decide +kernel)) (by decide +kernel) rfl hc_z
        replace hc_z := rn_if (am_cur_of (i := (109, 3, .ifCond .ne 7, (58, 0, 0), 0)) (by decide +kernel)) hc_z
        rcases hc_z with ⟨b698_z, hc_z⟩ | ⟨b698_z, hc_z⟩
        · replace b698_z : ¬ (rg_v h 44 1) = (0 : Int32) ∧ ¬ (rg_v h 44 1).toInt = (0 : Int32).toInt := b698_z
          replace hc_z := rn_iconst (w := 0) (am_cur_of (i := (116, 1, .iconst 0, (0, 0, 0), 0)) (by decide +kernel)) (by decide) hc_z
          replace hc_z := rn_iret (am_cur_of (i := (117, 1, .ireturn, (0, 0, 0), 0)) (by decide +kernel)) hc_z
          obtain ⟨e699_z, e700_z⟩ := hc_z
          rw [e700_z]
          exact V
        · replace b698_z : (rg_v h 44 1) = (0 : Int32) ∧ (rg_v h 44 1).toInt = (0 : Int32).toInt := b698_z
          replace hc_z := rn_iconst (w := 1) (am_cur_of (i := (112, 1, .iconst 1, (0, 0, 0), 0)) (by decide +kernel)) (by decide) hc_z
          replace hc_z := rn_goto (am_cur_of (i := (113, 3, .goto 4, (59, 0, 0), 0)) (by decide +kernel)) hc_z
          replace hc_z := rn_iret (am_cur_of (i := (117, 1, .ireturn, (0, 0, 0), 0)) (by decide +kernel)) hc_z
          obtain ⟨e701_z, e702_z⟩ := hc_z
          rw [e702_z]
          exact V
      · replace b697_z : (rg_v h 44 1) = (0 : Int32) ∧ (rg_v h 44 1).toInt = (0 : Int32).toInt := b697_z
        replace hc_z := rn_aload_n (am_cur_of (i := (98, 1, .aload_n 0, (0, 0, 0), 0)) (by decide +kernel)) g0_z hc_z
        replace hc_z := rn_getM (x := 2) (am_cur_of (i := (99, 3, .getfield 25, (4, 6, 415), 0)) (by decide +kernel)) D hc_z
        replace hc_z := rn_callV (M' := am_m54) (o := 2) (ar := []) (rest := []) (L := lv_args 0 [.ref 2]) (am_cur_of (i := (102, 3, .invokevirtual 69, (54, 872, 3), 0)) (by decide +kernel)) rfl rfl rfl rfl hc_z
        obtain ⟨r703_z, h704_z, q705_z, hc_z⟩ := hc_z
        have vo := rn_void rfl q705_z
        subst vo
        have k4_z := kg_54_2 q705_z
        have V3 : pv 2 h704_z := pv_e (fun o k q => k4_z o k (fun e => by unfold pQ at q; omega)) V
        replace hc_z : rn _ _ _ _ [] _ _ _ := hc_z
        replace hc_z := rn_aload_n (am_cur_of (i := (105, 1, .aload_n 0, (0, 0, 0), 0)) (by decide +kernel)) g0_z hc_z
        replace hc_z := rn_getI (v := rg_v h704_z 44 1) (am_cur_of (i := (106, 3, .getfield 51, (4, 1, 408), 0)) (by decide +kernel)) (by decide +kernel) rfl hc_z
        replace hc_z := rn_if (am_cur_of (i := (109, 3, .ifCond .ne 7, (58, 0, 0), 0)) (by decide +kernel)) hc_z
        rcases hc_z with ⟨b706_z, hc_z⟩ | ⟨b706_z, hc_z⟩
        · replace b706_z : ¬ (rg_v h704_z 44 1) = (0 : Int32) ∧ ¬ (rg_v h704_z 44 1).toInt = (0 : Int32).toInt := b706_z
          replace hc_z := rn_iconst (w := 0) (am_cur_of (i := (116, 1, .iconst 0, (0, 0, 0), 0)) (by decide +kernel)) (by decide) hc_z
          replace hc_z := rn_iret (am_cur_of (i := (117, 1, .ireturn, (0, 0, 0), 0)) (by decide +kernel)) hc_z
          obtain ⟨e707_z, e708_z⟩ := hc_z
          rw [e708_z]
          exact V3
        · replace b706_z : (rg_v h704_z 44 1) = (0 : Int32) ∧ (rg_v h704_z 44 1).toInt = (0 : Int32).toInt := b706_z
          replace hc_z := rn_iconst (w := 1) (am_cur_of (i := (112, 1, .iconst 1, (0, 0, 0), 0)) (by decide +kernel)) (by decide) hc_z
          replace hc_z := rn_goto (am_cur_of (i := (113, 3, .goto 4, (59, 0, 0), 0)) (by decide +kernel)) hc_z
          replace hc_z := rn_iret (am_cur_of (i := (117, 1, .ireturn, (0, 0, 0), 0)) (by decide +kernel)) hc_z
          obtain ⟨e709_z, e710_z⟩ := hc_z
          rw [e710_z]
          exact V3
    · replace b696_z : i.toInt < (rg_v h 44 5).toInt := b696_z
      replace hc_z := rn_aload_n (am_cur_of (i := (63, 1, .aload_n 0, (0, 0, 0), 0)) (by decide +kernel)) g0_z hc_z
      replace hc_z := rn_getI (v := rg_v h 44 1) (am_cur_of (i := (64, 3, .getfield 51, (4, 1, 408), 0)) (by decide +kernel)) (by decide +kernel) rfl hc_z
      replace hc_z := rn_if (am_cur_of (i := (67, 3, .ifCond .ne 24, (47, 0, 0), 0)) (by decide +kernel)) hc_z
      rcases hc_z with ⟨b711_z, hc_z⟩ | ⟨b711_z, hc_z⟩
      · replace b711_z : ¬ (rg_v h 44 1) = (0 : Int32) ∧ ¬ (rg_v h 44 1).toInt = (0 : Int32).toInt := b711_z
        replace hc_z := rn_aload_n (am_cur_of (i := (91, 1, .aload_n 0, (0, 0, 0), 0)) (by decide +kernel)) g0_z hc_z
        replace hc_z := rn_getI (v := rg_v h 44 1) (am_cur_of (i := (92, 3, .getfield 51, (4, 1, 408), 0)) (by decide +kernel)) (by decide +kernel) rfl hc_z
        replace hc_z := rn_if (am_cur_of (i := (95, 3, .ifCond .ne 10, (53, 0, 0), 0)) (by decide +kernel)) hc_z
        rcases hc_z with ⟨b712_z, hc_z⟩ | ⟨b712_z, hc_z⟩
        · replace b712_z : ¬ (rg_v h 44 1) = (0 : Int32) ∧ ¬ (rg_v h 44 1).toInt = (0 : Int32).toInt := b712_z
          replace hc_z := rn_aload_n (am_cur_of (i := (105, 1, .aload_n 0, (0, 0, 0), 0)) (by decide +kernel)) g0_z hc_z
          replace hc_z := rn_getI (v := rg_v h 44 1) (am_cur_of (i := (106, 3, .getfield 51, (4, 1, 408), 0)) (by decide +kernel)) (by decide +kernel) rfl hc_z
          replace hc_z := rn_if (am_cur_of (i := (109, 3, .ifCond .ne 7, (58, 0, 0), 0)) (by decide +kernel)) hc_z
          rcases hc_z with ⟨b713_z, hc_z⟩ | ⟨b713_z, hc_z⟩
          · replace b713_z : ¬ (rg_v h 44 1) = (0 : Int32) ∧ ¬ (rg_v h 44 1).toInt = (0 : Int32).toInt := b713_z
            replace hc_z := rn_iconst (w := 0) (am_cur_of (i := (116, 1, .iconst 0, (0, 0, 0), 0)) (by decide +kernel)) (by decide) hc_z
            replace hc_z := rn_iret (am_cur_of (i := (117, 1, .ireturn, (0, 0, 0), 0)) (by decide +kernel)) hc_z
            obtain ⟨e714_z, e715_z⟩ := hc_z
            rw [e715_z]
            exact V
          · replace b713_z : (rg_v h 44 1) = (0 : Int32) ∧ (rg_v h 44 1).toInt = (0 : Int32).toInt := b713_z
            replace hc_z := rn_iconst (w := 1) (am_cur_of (i := (112, 1, .iconst 1, (0, 0, 0), 0)) (by decide +kernel)) (by decide) hc_z
            replace hc_z := rn_goto (am_cur_of (i := (113, 3, .goto 4, (59, 0, 0), 0)) (by decide +kernel)) hc_z
            replace hc_z := rn_iret (am_cur_of (i := (117, 1, .ireturn, (0, 0, 0), 0)) (by decide +kernel)) hc_z
            obtain ⟨e716_z, e717_z⟩ := hc_z
            rw [e717_z]
            exact V
        · replace b712_z : (rg_v h 44 1) = (0 : Int32) ∧ (rg_v h 44 1).toInt = (0 : Int32).toInt := b712_z
          replace hc_z := rn_aload_n (am_cur_of (i := (98, 1, .aload_n 0, (0, 0, 0), 0)) (by decide +kernel)) g0_z hc_z
          replace hc_z := rn_getM (x := 2) (am_cur_of (i := (99, 3, .getfield 25, (4, 6, 415), 0)) (by decide +kernel)) D hc_z
          replace hc_z := rn_callV (M' := am_m54) (o := 2) (ar := []) (rest := []) (L := lv_args 0 [.ref 2]) (am_cur_of (i := (102, 3, .invokevirtual 69, (54, 872, 3), 0)) (by decide +kernel)) rfl rfl rfl rfl hc_z
          obtain ⟨r718_z, h719_z, q720_z, hc_z⟩ := hc_z
          have vo := rn_void rfl q720_z
          subst vo
          have k4_z := kg_54_2 q720_z
          have V3 : pv 2 h719_z := pv_e (fun o k q => k4_z o k (fun e => by unfold pQ at q; omega)) V
          replace hc_z : rn _ _ _ _ [] _ _ _ := hc_z
          replace hc_z := rn_aload_n (am_cur_of (i := (105, 1, .aload_n 0, (0, 0, 0), 0)) (by decide +kernel)) g0_z hc_z
          replace hc_z := rn_getI (v := rg_v h719_z 44 1) (am_cur_of (i := (106, 3, .getfield 51, (4, 1, 408), 0)) (by decide +kernel)) (by decide +kernel) rfl hc_z
          replace hc_z := rn_if (am_cur_of (i := (109, 3, .ifCond .ne 7, (58, 0, 0), 0)) (by decide +kernel)) hc_z
          rcases hc_z with ⟨b721_z, hc_z⟩ | ⟨b721_z, hc_z⟩
          · replace b721_z : ¬ (rg_v h719_z 44 1) = (0 : Int32) ∧ ¬ (rg_v h719_z 44 1).toInt = (0 : Int32).toInt := b721_z
            replace hc_z := rn_iconst (w := 0) (am_cur_of (i := (116, 1, .iconst 0, (0, 0, 0), 0)) (by decide +kernel)) (by decide) hc_z
            replace hc_z := rn_iret (am_cur_of (i := (117, 1, .ireturn, (0, 0, 0), 0)) (by decide +kernel)) hc_z
            obtain ⟨e722_z, e723_z⟩ := hc_z
            rw [e723_z]
            exact V3
          · replace b721_z : (rg_v h719_z 44 1) = (0 : Int32) ∧ (rg_v h719_z 44 1).toInt = (0 : Int32).toInt := b721_z
            replace hc_z := rn_iconst (w := 1) (am_cur_of (i := (112, 1, .iconst 1, (0, 0, 0), 0)) (by decide +kernel)) (by decide) hc_z
            replace hc_z := rn_goto (am_cur_of (i := (113, 3, .goto 4, (59, 0, 0), 0)) (by decide +kernel)) hc_z
            replace hc_z := rn_iret (am_cur_of (i := (117, 1, .ireturn, (0, 0, 0), 0)) (by decide +kernel)) hc_z
            obtain ⟨e724_z, e725_z⟩ := hc_z
            rw [e725_z]
            exact V3
      · replace b711_z : (rg_v h 44 1) = (0 : Int32) ∧ (rg_v h 44 1).toInt = (0 : Int32).toInt := b711_z
        replace hc_z := rn_aload_n (am_cur_of (i := (70, 1, .aload_n 0, (0, 0, 0), 0)) (by decide +kernel)) g0_z hc_z
        replace hc_z := rn_getI (v := rg_v h 44 10) (am_cur_of (i := (71, 3, .getfield 60, (4, 10, 419), 0)) (by decide +kernel)) (by decide +kernel) rfl hc_z
        replace hc_z := rn_if (am_cur_of (i := (74, 3, .ifCond .eq 17, (47, 0, 0), 0)) (by decide +kernel)) hc_z
        rcases hc_z with ⟨b726_z, hc_z⟩ | ⟨b726_z, hc_z⟩
        · replace b726_z : (rg_v h 44 10) = (0 : Int32) ∧ (rg_v h 44 10).toInt = (0 : Int32).toInt := b726_z
          replace hc_z := rn_aload_n (am_cur_of (i := (91, 1, .aload_n 0, (0, 0, 0), 0)) (by decide +kernel)) g0_z hc_z
          replace hc_z := rn_getI (v := rg_v h 44 1) (am_cur_of (i := (92, 3, .getfield 51, (4, 1, 408), 0)) (by decide +kernel)) (by decide +kernel) rfl hc_z
          replace hc_z := rn_if (am_cur_of (i := (95, 3, .ifCond .ne 10, (53, 0, 0), 0)) (by decide +kernel)) hc_z
          rcases hc_z with ⟨b727_z, hc_z⟩ | ⟨b727_z, hc_z⟩
          · replace b727_z : ¬ (rg_v h 44 1) = (0 : Int32) ∧ ¬ (rg_v h 44 1).toInt = (0 : Int32).toInt := b727_z
            replace hc_z := rn_aload_n (am_cur_of (i := (105, 1, .aload_n 0, (0, 0, 0), 0)) (by decide +kernel)) g0_z hc_z
            replace hc_z := rn_getI (v := rg_v h 44 1) (am_cur_of (i := (106, 3, .getfield 51, (4, 1, 408), 0)) (by decide +kernel)) (by decide +kernel) rfl hc_z
            replace hc_z := rn_if (am_cur_of (i := (109, 3, .ifCond .ne 7, (58, 0, 0), 0)) (by decide +kernel)) hc_z
            rcases hc_z with ⟨b728_z, hc_z⟩ | ⟨b728_z, hc_z⟩
            · replace b728_z : ¬ (rg_v h 44 1) = (0 : Int32) ∧ ¬ (rg_v h 44 1).toInt = (0 : Int32).toInt := b728_z
              replace hc_z := rn_iconst (w := 0) (am_cur_of (i := (116, 1, .iconst 0, (0, 0, 0), 0)) (by decide +kernel)) (by decide) hc_z
              replace hc_z := rn_iret (am_cur_of (i := (117, 1, .ireturn, (0, 0, 0), 0)) (by decide +kernel)) hc_z
              obtain ⟨e729_z, e730_z⟩ := hc_z
              rw [e730_z]
              exact V
            · replace b728_z : (rg_v h 44 1) = (0 : Int32) ∧ (rg_v h 44 1).toInt = (0 : Int32).toInt := b728_z
              replace hc_z := rn_iconst (w := 1) (am_cur_of (i := (112, 1, .iconst 1, (0, 0, 0), 0)) (by decide +kernel)) (by decide) hc_z
              replace hc_z := rn_goto (am_cur_of (i := (113, 3, .goto 4, (59, 0, 0), 0)) (by decide +kernel)) hc_z
              replace hc_z := rn_iret (am_cur_of (i := (117, 1, .ireturn, (0, 0, 0), 0)) (by decide +kernel)) hc_z
              obtain ⟨e731_z, e732_z⟩ := hc_z
              rw [e732_z]
              exact V
          · replace b727_z : (rg_v h 44 1) = (0 : Int32) ∧ (rg_v h 44 1).toInt = (0 : Int32).toInt := b727_z
            replace hc_z := rn_aload_n (am_cur_of (i := (98, 1, .aload_n 0, (0, 0, 0), 0)) (by decide +kernel)) g0_z hc_z
            replace hc_z := rn_getM (x := 2) (am_cur_of (i := (99, 3, .getfield 25, (4, 6, 415), 0)) (by decide +kernel)) D hc_z
            replace hc_z := rn_callV (M' := am_m54) (o := 2) (ar := []) (rest := []) (L := lv_args 0 [.ref 2]) (am_cur_of (i := (102, 3, .invokevirtual 69, (54, 872, 3), 0)) (by decide +kernel)) rfl rfl rfl rfl hc_z
            obtain ⟨r733_z, h734_z, q735_z, hc_z⟩ := hc_z
            have vo := rn_void rfl q735_z
            subst vo
            have k4_z := kg_54_2 q735_z
            have V3 : pv 2 h734_z := pv_e (fun o k q => k4_z o k (fun e => by unfold pQ at q; omega)) V
            replace hc_z : rn _ _ _ _ [] _ _ _ := hc_z
            replace hc_z := rn_aload_n (am_cur_of (i := (105, 1, .aload_n 0, (0, 0, 0), 0)) (by decide +kernel)) g0_z hc_z
            replace hc_z := rn_getI (v := rg_v h734_z 44 1) (am_cur_of (i := (106, 3, .getfield 51, (4, 1, 408), 0)) (by decide +kernel)) (by decide +kernel) rfl hc_z
            replace hc_z := rn_if (am_cur_of (i := (109, 3, .ifCond .ne 7, (58, 0, 0), 0)) (by decide +kernel)) hc_z
            rcases hc_z with ⟨b736_z, hc_z⟩ | ⟨b736_z, hc_z⟩
            · replace b736_z : ¬ (rg_v h734_z 44 1) = (0 : Int32) ∧ ¬ (rg_v h734_z 44 1).toInt = (0 : Int32).toInt := b736_z
              replace hc_z := rn_iconst (w := 0) (am_cur_of (i := (116, 1, .iconst 0, (0, 0, 0), 0)) (by decide +kernel)) (by decide) hc_z
              replace hc_z := rn_iret (am_cur_of (i := (117, 1, .ireturn, (0, 0, 0), 0)) (by decide +kernel)) hc_z
              obtain ⟨e737_z, e738_z⟩ := hc_z
              rw [e738_z]
              exact V3
            · replace b736_z : (rg_v h734_z 44 1) = (0 : Int32) ∧ (rg_v h734_z 44 1).toInt = (0 : Int32).toInt := b736_z
              replace hc_z := rn_iconst (w := 1) (am_cur_of (i := (112, 1, .iconst 1, (0, 0, 0), 0)) (by decide +kernel)) (by decide) hc_z
              replace hc_z := rn_goto (am_cur_of (i := (113, 3, .goto 4, (59, 0, 0), 0)) (by decide +kernel)) hc_z
              replace hc_z := rn_iret (am_cur_of (i := (117, 1, .ireturn, (0, 0, 0), 0)) (by decide +kernel)) hc_z
              obtain ⟨e739_z, e740_z⟩ := hc_z
              rw [e740_z]
              exact V3
        · replace b726_z : ¬ (rg_v h 44 10) = (0 : Int32) ∧ ¬ (rg_v h 44 10).toInt = (0 : Int32).toInt := b726_z
          replace hc_z := rn_aload_n (am_cur_of (i := (77, 1, .aload_n 0, (0, 0, 0), 0)) (by decide +kernel)) g0_z hc_z
          replace hc_z := rn_callV (M' := am_m26) (o := 44) (ar := []) (rest := []) (L := lv_args 0 [.ref 44]) (am_cur_of (i := (78, 3, .invokevirtual 63, (26, 757, 3), 0)) (by decide +kernel)) rfl rfl rfl rfl hc_z
          obtain ⟨r741_z, h742_z, q743_z, hc_z⟩ := hc_z
          have vo := rn_void rfl q743_z
          subst vo
          have V1 := sd_26_2 D4 D V q743_z
          have k1_z := r4_of (a := 26) (by decide) rfl q743_z
          have E4 := k1_z.1.trans D4
          have E := k1_z.2.trans D
          replace hc_z : rn _ _ _ _ [] _ _ _ := hc_z
          replace hc_z := rn_aload_n (am_cur_of (i := (81, 1, .aload_n 0, (0, 0, 0), 0)) (by decide +kernel)) g0_z hc_z
          replace hc_z := rn_callV (M' := am_m53) (o := 44) (ar := []) (rest := []) (L := lv_args 0 [.ref 44]) (am_cur_of (i := (82, 3, .invokevirtual 66, (53, 868, 3), 0)) (by decide +kernel)) rfl rfl rfl rfl hc_z
          obtain ⟨r744_z, h745_z, q746_z, hc_z⟩ := hc_z
          have vo := rn_void rfl q746_z
          subst vo
          have V2 := pv_rd (by decide) (rd_of (a := 53) (by decide) rfl q746_z) V1
          have k2_z := r4_of (a := 53) (by decide) rfl q746_z
          have G4 := k2_z.1.trans E4
          have G := k2_z.2.trans E
          replace hc_z : rn _ _ _ _ [] _ _ _ := hc_z
          replace hc_z := rn_iinc (w := i + 1) (am_cur_of (i := (85, 3, .iinc 4 1, (0, 0, 0), 0)) (by decide +kernel)) g4_z rfl hc_z
          obtain ⟨_, s747_z, s748_z, g4_z, hc_z⟩ := hc_z
          replace g0_z := s747_z 0 _ (by decide) rfl g0_z
          clear s747_z s748_z
          replace hc_z := rn_gotoL (am_cur_of (i := (88, 3, .goto (-34), (31, 0, 0), 0)) (by decide +kernel)) hc_z
          exact ih_z (i + 1) _ _ G4 G V2 g0_z g4_z hc_z
theorem sd_18_2 {n : Nat} {r : Option Value} {h h' : am_H} {nn : Int32} (hc_z : rn n am_m18 0 (lv_args 0 [.ref 44, .ref 1, .int nn, .ref 2]) [] h r h') : pv 2 h' := by
  have g0_z : am_get (lv_args 0 [.ref 44, .ref 1, .int nn, .ref 2]) 0 = some (.ref 44) := rfl
  have g1_z : am_get (lv_args 0 [.ref 44, .ref 1, .int nn, .ref 2]) 1 = some (.ref 1) := rfl
  have g2_z : am_get (lv_args 0 [.ref 44, .ref 1, .int nn, .ref 2]) 2 = some (.int nn) := rfl
  have g3_z : am_get (lv_args 0 [.ref 44, .ref 1, .int nn, .ref 2]) 3 = some (.ref 2) := rfl
  replace hc_z := rn_aload_n (am_cur_of (i := (0, 1, .aload_n 0, (0, 0, 0), 0)) (by decide +kernel)) g0_z hc_z
  replace hc_z := rn_aload_n (am_cur_of (i := (1, 1, .aload_n 1, (0, 0, 0), 0)) (by decide +kernel)) g1_z hc_z
  replace hc_z := rn_put (am_cur_of (i := (2, 3, .putfield 19, (4, 4, 413), 0)) (by decide +kernel)) (by decide +kernel) hc_z
  replace hc_z := rn_aload_n (am_cur_of (i := (5, 1, .aload_n 0, (0, 0, 0), 0)) (by decide +kernel)) g0_z hc_z
  replace hc_z := rn_iload_n (am_cur_of (i := (6, 1, .iload_n 2, (0, 0, 0), 0)) (by decide +kernel)) g2_z hc_z
  replace hc_z := rn_put (am_cur_of (i := (7, 3, .putfield 37, (4, 5, 414), 0)) (by decide +kernel)) (by decide +kernel) hc_z
  replace hc_z := rn_aload_n (am_cur_of (i := (10, 1, .aload_n 0, (0, 0, 0), 0)) (by decide +kernel)) g0_z hc_z
  replace hc_z := rn_aload_n (am_cur_of (i := (11, 1, .aload_n 3, (0, 0, 0), 0)) (by decide +kernel)) g3_z hc_z
  replace hc_z := rn_put (am_cur_of (i := (12, 3, .putfield 25, (4, 6, 415), 0)) (by decide +kernel)) (by decide +kernel) hc_z
  replace hc_z := rn_aload_n (am_cur_of (i := (15, 1, .aload_n 0, (0, 0, 0), 0)) (by decide +kernel)) g0_z hc_z
  replace hc_z := rn_getM (x := 2) (am_cur_of (i := (16, 3, .getfield 25, (4, 6, 415), 0)) (by decide +kernel)) rfl hc_z
  replace hc_z := rn_callV (M' := am_m4) (o := 2) (ar := []) (rest := []) (L := lv_args 0 [.ref 2]) (am_cur_of (i := (19, 3, .invokevirtual 40, (4, 726, 3), 0)) (by decide +kernel)) rfl rfl rfl rfl hc_z
  obtain ⟨r774_z, h775_z, q776_z, hc_z⟩ := hc_z
  rcases tx_c4_2 q776_z with ⟨rfl, y777_z⟩
  replace y777_z := y777_z.symm
  subst y777_z
  replace hc_z : rn _ _ _ _ [] _ _ _ := hc_z
  replace hc_z := rn_aload_n (am_cur_of (i := (22, 1, .aload_n 0, (0, 0, 0), 0)) (by decide +kernel)) g0_z hc_z
  replace hc_z := rn_iconst (w := 0) (am_cur_of (i := (23, 1, .iconst 0, (0, 0, 0), 0)) (by decide +kernel)) (by decide) hc_z
  replace hc_z := rn_put (am_cur_of (i := (24, 3, .putfield 45, (4, 7, 416), 0)) (by decide +kernel)) (by decide +kernel) hc_z
  replace hc_z := rn_aload_n (am_cur_of (i := (27, 1, .aload_n 0, (0, 0, 0), 0)) (by decide +kernel)) g0_z hc_z
  replace hc_z := rn_iconst (w := 0) (am_cur_of (i := (28, 1, .iconst 0, (0, 0, 0), 0)) (by decide +kernel)) (by decide) hc_z
  replace hc_z := rn_put (am_cur_of (i := (29, 3, .putfield 48, (4, 0, 406), 0)) (by decide +kernel)) (by decide +kernel) hc_z
  replace hc_z := rn_aload_n (am_cur_of (i := (32, 1, .aload_n 0, (0, 0, 0), 0)) (by decide +kernel)) g0_z hc_z
  replace hc_z := rn_iconst (w := 0) (am_cur_of (i := (33, 1, .iconst 0, (0, 0, 0), 0)) (by decide +kernel)) (by decide) hc_z
  replace hc_z := rn_put (am_cur_of (i := (34, 3, .putfield 51, (4, 1, 408), 0)) (by decide +kernel)) (by decide +kernel) hc_z
  replace hc_z := rn_aload_n (am_cur_of (i := (37, 1, .aload_n 0, (0, 0, 0), 0)) (by decide +kernel)) g0_z hc_z
  replace hc_z := rn_iconst (w := (-1)) (am_cur_of (i := (38, 1, .iconst (-1), (0, 0, 0), 0)) (by decide +kernel)) (by decide) hc_z
  replace hc_z := rn_put (am_cur_of (i := (39, 3, .putfield 9, (4, 2, 410), 0)) (by decide +kernel)) (by decide +kernel) hc_z
  replace hc_z := rn_aload_n (am_cur_of (i := (42, 1, .aload_n 0, (0, 0, 0), 0)) (by decide +kernel)) g0_z hc_z
  replace hc_z := rn_iconst (w := 0) (am_cur_of (i := (43, 1, .iconst 0, (0, 0, 0), 0)) (by decide +kernel)) (by decide) hc_z
  replace hc_z := rn_put (am_cur_of (i := (44, 3, .putfield 54, (4, 8, 417), 0)) (by decide +kernel)) (by decide +kernel) hc_z
  replace hc_z := rn_aload_n (am_cur_of (i := (47, 1, .aload_n 0, (0, 0, 0), 0)) (by decide +kernel)) g0_z hc_z
  replace hc_z := rn_callV (M' := am_m19) (o := 44) (ar := []) (rest := []) (L := lv_args 0 [.ref 44]) (am_cur_of (i := (48, 3, .invokevirtual 57, (19, 727, 3), 0)) (by decide +kernel)) rfl rfl rfl rfl hc_z
  obtain ⟨r778_z, h779_z, q780_z, hc_z⟩ := hc_z
  have vo := rn_void rfl q780_z
  subst vo
  have k1_z := r4_of (a := 19) (by decide) rfl q780_z
  have V0 : pv 2 ((am_up (am_up (am_up (am_up (am_up (am_up (am_up (am_up (am_up (am_up (am_up (am_up (am_up (am_up (am_up (am_up (am_up (am_up (am_up (am_up (am_up (am_up (am_up (am_up (am_up (am_up (am_up (am_up (am_up (am_up h 44 4 (.ref 1)) 44 5 (.int nn)) 44 6 (.ref 2)) 2 0 (.int 500)) 2 1 (.int 0)) 2 2 (.int 0)) 2 4 (.int 0)) 2 7 (.int 0)) 2 8 (.int 0)) 2 9 (.int 0)) 2 12 (.int 0)) 2 16 (.int 0)) 2 17 (.int 0)) 2 18 (.int (-1))) 11 0 (.int 0)) 11 1 (.int 0)) 14 0 (.int 0)) 15 0 (.int 0)) 16 0 (.int 0)) 14 1 (.int 0)) 15 1 (.int 0)) 16 1 (.int 0)) 14 2 (.int 0)) 15 2 (.int 0)) 16 2 (.int 0)) 44 7 (.int 0)) 44 0 (.int 0)) 44 1 (.int 0)) 44 2 (.int (-1))) 44 8 (.int 0))) := by
    have q0_z : (500 : Int32).toInt = 500 := by decide
    have z0_z : (0 : Int32).toInt = 0 := by decide
    have ev_z : rg_v ((am_up (am_up (am_up (am_up (am_up (am_up (am_up (am_up (am_up (am_up (am_up (am_up (am_up (am_up (am_up (am_up (am_up (am_up (am_up (am_up (am_up (am_up (am_up (am_up (am_up (am_up (am_up (am_up (am_up (am_up h 44 4 (.ref 1)) 44 5 (.int nn)) 44 6 (.ref 2)) 2 0 (.int 500)) 2 1 (.int 0)) 2 2 (.int 0)) 2 4 (.int 0)) 2 7 (.int 0)) 2 8 (.int 0)) 2 9 (.int 0)) 2 12 (.int 0)) 2 16 (.int 0)) 2 17 (.int 0)) 2 18 (.int (-1))) 11 0 (.int 0)) 11 1 (.int 0)) 14 0 (.int 0)) 15 0 (.int 0)) 16 0 (.int 0)) 14 1 (.int 0)) 15 1 (.int 0)) 16 1 (.int 0)) 14 2 (.int 0)) 15 2 (.int 0)) 16 2 (.int 0)) 44 7 (.int 0)) 44 0 (.int 0)) 44 1 (.int 0)) 44 2 (.int (-1))) 44 8 (.int 0))) 2 0 = 500 ∧ rg_v ((am_up (am_up (am_up (am_up (am_up (am_up (am_up (am_up (am_up (am_up (am_up (am_up (am_up (am_up (am_up (am_up (am_up (am_up (am_up (am_up (am_up (am_up (am_up (am_up (am_up (am_up (am_up (am_up (am_up (am_up h 44 4 (.ref 1)) 44 5 (.int nn)) 44 6 (.ref 2)) 2 0 (.int 500)) 2 1 (.int 0)) 2 2 (.int 0)) 2 4 (.int 0)) 2 7 (.int 0)) 2 8 (.int 0)) 2 9 (.int 0)) 2 12 (.int 0)) 2 16 (.int 0)) 2 17 (.int 0)) 2 18 (.int (-1))) 11 0 (.int 0)) 11 1 (.int 0)) 14 0 (.int 0)) 15 0 (.int 0)) 16 0 (.int 0)) 14 1 (.int 0)) 15 1 (.int 0)) 16 1 (.int 0)) 14 2 (.int 0)) 15 2 (.int 0)) 16 2 (.int 0)) 44 7 (.int 0)) 44 0 (.int 0)) 44 1 (.int 0)) 44 2 (.int (-1))) 44 8 (.int 0))) 2 1 = 0 ∧ rg_v ((am_up (am_up (am_up (am_up (am_up (am_up (am_up (am_up (am_up (am_up (am_up (am_up (am_up (am_up (am_up (am_up (am_up (am_up (am_up (am_up (am_up (am_up (am_up (am_up (am_up (am_up (am_up (am_up (am_up (am_up h 44 4 (.ref 1)) 44 5 (.int nn)) 44 6 (.ref 2)) 2 0 (.int 500)) 2 1 (.int 0)) 2 2 (.int 0)) 2 4 (.int 0)) 2 7 (.int 0)) 2 8 (.int 0)) 2 9 (.int 0)) 2 12 (.int 0)) 2 16 (.int 0)) 2 17 (.int 0)) 2 18 (.int (-1))) 11 0 (.int 0)) 11 1 (.int 0)) 14 0 (.int 0)) 15 0 (.int 0)) 16 0 (.int 0)) 14 1 (.int 0)) 15 1 (.int 0)) 16 1 (.int 0)) 14 2 (.int 0)) 15 2 (.int 0)) 16 2 (.int 0)) 44 7 (.int 0)) 44 0 (.int 0)) 44 1 (.int 0)) 44 2 (.int (-1))) 44 8 (.int 0))) 2 2 = 0 ∧ rg_v ((am_up (am_up (am_up (am_up (am_up (am_up (am_up (am_up (am_up (am_up (am_up (am_up (am_up (am_up (am_up (am_up (am_up (am_up (am_up (am_up (am_up (am_up (am_up (am_up (am_up (am_up (am_up (am_up (am_up (am_up h 44 4 (.ref 1)) 44 5 (.int nn)) 44 6 (.ref 2)) 2 0 (.int 500)) 2 1 (.int 0)) 2 2 (.int 0)) 2 4 (.int 0)) 2 7 (.int 0)) 2 8 (.int 0)) 2 9 (.int 0)) 2 12 (.int 0)) 2 16 (.int 0)) 2 17 (.int 0)) 2 18 (.int (-1))) 11 0 (.int 0)) 11 1 (.int 0)) 14 0 (.int 0)) 15 0 (.int 0)) 16 0 (.int 0)) 14 1 (.int 0)) 15 1 (.int 0)) 16 1 (.int 0)) 14 2 (.int 0)) 15 2 (.int 0)) 16 2 (.int 0)) 44 7 (.int 0)) 44 0 (.int 0)) 44 1 (.int 0)) 44 2 (.int (-1))) 44 8 (.int 0))) 2 4 = 0 ∧ rg_v ((am_up (am_up (am_up (am_up (am_up (am_up (am_up (am_up (am_up (am_up (am_up (am_up (am_up (am_up (am_up (am_up (am_up (am_up (am_up (am_up (am_up (am_up (am_up (am_up (am_up (am_up (am_up (am_up (am_up (am_up h 44 4 (.ref 1)) 44 5 (.int nn)) 44 6 (.ref 2)) 2 0 (.int 500)) 2 1 (.int 0)) 2 2 (.int 0)) 2 4 (.int 0)) 2 7 (.int 0)) 2 8 (.int 0)) 2 9 (.int 0)) 2 12 (.int 0)) 2 16 (.int 0)) 2 17 (.int 0)) 2 18 (.int (-1))) 11 0 (.int 0)) 11 1 (.int 0)) 14 0 (.int 0)) 15 0 (.int 0)) 16 0 (.int 0)) 14 1 (.int 0)) 15 1 (.int 0)) 16 1 (.int 0)) 14 2 (.int 0)) 15 2 (.int 0)) 16 2 (.int 0)) 44 7 (.int 0)) 44 0 (.int 0)) 44 1 (.int 0)) 44 2 (.int (-1))) 44 8 (.int 0))) 2 7 = 0 ∧ rg_v ((am_up (am_up (am_up (am_up (am_up (am_up (am_up (am_up (am_up (am_up (am_up (am_up (am_up (am_up (am_up (am_up (am_up (am_up (am_up (am_up (am_up (am_up (am_up (am_up (am_up (am_up (am_up (am_up (am_up (am_up h 44 4 (.ref 1)) 44 5 (.int nn)) 44 6 (.ref 2)) 2 0 (.int 500)) 2 1 (.int 0)) 2 2 (.int 0)) 2 4 (.int 0)) 2 7 (.int 0)) 2 8 (.int 0)) 2 9 (.int 0)) 2 12 (.int 0)) 2 16 (.int 0)) 2 17 (.int 0)) 2 18 (.int (-1))) 11 0 (.int 0)) 11 1 (.int 0)) 14 0 (.int 0)) 15 0 (.int 0)) 16 0 (.int 0)) 14 1 (.int 0)) 15 1 (.int 0)) 16 1 (.int 0)) 14 2 (.int 0)) 15 2 (.int 0)) 16 2 (.int 0)) 44 7 (.int 0)) 44 0 (.int 0)) 44 1 (.int 0)) 44 2 (.int (-1))) 44 8 (.int 0))) 2 8 = 0 ∧ rg_v ((am_up (am_up (am_up (am_up (am_up (am_up (am_up (am_up (am_up (am_up (am_up (am_up (am_up (am_up (am_up (am_up (am_up (am_up (am_up (am_up (am_up (am_up (am_up (am_up (am_up (am_up (am_up (am_up (am_up (am_up h 44 4 (.ref 1)) 44 5 (.int nn)) 44 6 (.ref 2)) 2 0 (.int 500)) 2 1 (.int 0)) 2 2 (.int 0)) 2 4 (.int 0)) 2 7 (.int 0)) 2 8 (.int 0)) 2 9 (.int 0)) 2 12 (.int 0)) 2 16 (.int 0)) 2 17 (.int 0)) 2 18 (.int (-1))) 11 0 (.int 0)) 11 1 (.int 0)) 14 0 (.int 0)) 15 0 (.int 0)) 16 0 (.int 0)) 14 1 (.int 0)) 15 1 (.int 0)) 16 1 (.int 0)) 14 2 (.int 0)) 15 2 (.int 0)) 16 2 (.int 0)) 44 7 (.int 0)) 44 0 (.int 0)) 44 1 (.int 0)) 44 2 (.int (-1))) 44 8 (.int 0))) 2 9 = 0 ∧ rg_v ((am_up (am_up (am_up (am_up (am_up (am_up (am_up (am_up (am_up (am_up (am_up (am_up (am_up (am_up (am_up (am_up (am_up (am_up (am_up (am_up (am_up (am_up (am_up (am_up (am_up (am_up (am_up (am_up (am_up (am_up h 44 4 (.ref 1)) 44 5 (.int nn)) 44 6 (.ref 2)) 2 0 (.int 500)) 2 1 (.int 0)) 2 2 (.int 0)) 2 4 (.int 0)) 2 7 (.int 0)) 2 8 (.int 0)) 2 9 (.int 0)) 2 12 (.int 0)) 2 16 (.int 0)) 2 17 (.int 0)) 2 18 (.int (-1))) 11 0 (.int 0)) 11 1 (.int 0)) 14 0 (.int 0)) 15 0 (.int 0)) 16 0 (.int 0)) 14 1 (.int 0)) 15 1 (.int 0)) 16 1 (.int 0)) 14 2 (.int 0)) 15 2 (.int 0)) 16 2 (.int 0)) 44 7 (.int 0)) 44 0 (.int 0)) 44 1 (.int 0)) 44 2 (.int (-1))) 44 8 (.int 0))) 2 12 = 0 := ⟨rfl, rfl, rfl, rfl, rfl, rfl, rfl, rfl⟩
    obtain ⟨f0_z, f1_z, f2_z, f4_z, f7_z, f8_z, f9_z, f12_z⟩ := ev_z
    refine ⟨?_, fun b hb_z => ?_, fun b hb_z => ?_, Or.inl ⟨f7_z, f8_z⟩, fun b hb_z => ?_, fun b hb_z => ?_, ?_⟩
    · unfold pv1_z
      rw [f0_z, f1_z]
      omega
    · rw [f2_z] at hb_z; omega
    · rw [f4_z] at hb_z; omega
    · rw [f9_z] at hb_z; omega
    · rw [f12_z] at hb_z; omega
    · unfold pv7_z
      rw [f2_z, f4_z, f9_z, f12_z]
      omega
  have V1 := pv_rd (by decide) (rd_of (a := 19) (by decide) rfl q780_z) V0
  have D4 : h779_z 44 4 = .ref 1 := k1_z.1.trans rfl
  have D : h779_z 44 6 = .ref 2 := k1_z.2.trans rfl
  replace hc_z : rn _ _ _ _ [] _ _ _ := hc_z
  replace hc_z := rn_iconst (w := 0) (am_cur_of (i := (51, 1, .iconst 0, (0, 0, 0), 0)) (by decide +kernel)) (by decide) hc_z
  replace hc_z := rn_istore (am_cur_of (i := (52, 2, .istore 4, (0, 0, 0), 0)) (by decide +kernel)) hc_z
  obtain ⟨_, s781_z, s782_z, g4_z, hc_z⟩ := hc_z
  replace g0_z := s781_z 0 _ (by decide) rfl g0_z
  replace g1_z := s781_z 1 _ (by decide) rfl g1_z
  replace g2_z := s781_z 2 _ (by decide) rfl g2_z
  replace g3_z := s781_z 3 _ (by decide) rfl g3_z
  clear s781_z s782_z
  exact sd_l2 _ 0 _ _ D4 D V1 g0_z g4_z hc_z
theorem sd_42_23 {n : Nat} {r : Option Value} {h h' : am_H} (D4 : h 44 4 = .ref 1) (D : h 44 6 = .ref 23) (V : pv 23 h) (hc_z : rn n am_m42 0 (lv_args 0 [.ref 44]) [] h r h') : pv 23 h' := by
  refine pv_e (fun o k q => ?_) V
  have f := ra_rn (w := ek_w 23) (ek_all (by decide)) (a := 42) (by decide) rfl (ra_Sc (fun n e => by cases e; rfl) ra_S0) (ek_P (by decide) D4 D (rn_G hc_z)) hc_z
  have q2_z : (o = 23 ∧ ¬ k = 18) ∨ (23 + 2 ≤ o ∧ o ≤ 23 + 8) ∨ (23 + 17 ≤ o ∧ o ≤ 23 + 20) := q
  unfold rg_v
  rcases q2_z with ⟨e, -⟩ | q2_z
  · rw [e, rf_keep (c := 1) (by decide +kernel) ek_1all (a := 42) (by decide) rfl hc_z k]
  · rw [f o k (ek_Af (by decide) q2_z)]
theorem sd_26_23 {n : Nat} {r : Option Value} {h h' : am_H} (D4 : h 44 4 = .ref 1) (D : h 44 6 = .ref 23) (V : pv 23 h) (hc_z : rn n am_m26 0 (lv_args 0 [.ref 44]) [] h r h') : pv 23 h' := by
  have z2_z : (2 : Int32).toInt = 2 := by decide
  have g0_z : am_get (lv_args 0 [.ref 44]) 0 = some (.ref 44) := rfl
  replace hc_z := rn_aload_n (am_cur_of (i := (0, 1, .aload_n 0, (0, 0, 0), 0)) (by decide +kernel)) g0_z hc_z
  replace hc_z := rn_getI (v := rg_v h 44 10) (am_cur_of (i := (1, 3, .getfield 60, (4, 10, 419), 0)) (by decide +kernel)) (by decide +kernel) rfl hc_z
  replace hc_z := rn_iconst (w := 2) (am_cur_of (i := (4, 1, .iconst 2, (0, 0, 0), 0)) (by decide +kernel)) (by decide) hc_z
  replace hc_z := rn_cmp (am_cur_of (i := (5, 3, .if_icmp .ne 10, (7, 0, 0), 0)) (by decide +kernel)) hc_z
  rcases hc_z with ⟨b783_z, hc_z⟩ | ⟨b783_z, hc_z⟩
  · replace b783_z : ¬ (rg_v h 44 10) = (2 : Int32) ∧ ¬ (rg_v h 44 10).toInt = (2 : Int32).toInt := b783_z
    replace hc_z := rn_iconst (w := (-1)) (am_cur_of (i := (15, 1, .iconst (-1), (0, 0, 0), 0)) (by decide +kernel)) (by decide) hc_z
    replace hc_z := rn_swO (a := 36) (am_cur_of (i := (16, 52, .tableswitch 115 0 8 #[52, 59, 66, 73, 80, 87, 94, 101, 108], (0, 0, 0), 0)) (by decide +kernel)) (by decide) (by decide +kernel) hc_z
    replace hc_z := rn_aload_n (am_cur_of (i := (131, 1, .aload_n 0, (0, 0, 0), 0)) (by decide +kernel)) g0_z hc_z
    replace hc_z := rn_iconst (w := 1) (am_cur_of (i := (132, 1, .iconst 1, (0, 0, 0), 0)) (by decide +kernel)) (by decide) hc_z
    replace hc_z := rn_callV (M' := am_m29) (o := 44) (ar := [.int 1]) (rest := []) (L := lv_args 0 [.ref 44, .int 1]) (am_cur_of (i := (133, 3, .invokevirtual 108, (29, 769, 3), 0)) (by decide +kernel)) rfl rfl rfl rfl hc_z
    obtain ⟨r784_z, h785_z, q786_z, hc_z⟩ := hc_z
    have vo := rn_void rfl q786_z
    subst vo
    have pp := pv_rd (by decide) (rd_of (a := 29) (by decide) rfl q786_z) V
    replace hc_z : rn _ _ _ _ [] _ _ _ := hc_z
    replace hc_z := rn_vret (am_cur_of (i := (136, 1, .return_, (0, 0, 0), 0)) (by decide +kernel)) hc_z
    obtain ⟨e787_z, e788_z⟩ := hc_z
    rw [e788_z]
    exact pp
  · replace b783_z : (rg_v h 44 10) = (2 : Int32) ∧ (rg_v h 44 10).toInt = (2 : Int32).toInt := b783_z
    replace hc_z := rn_aload_n (am_cur_of (i := (8, 1, .aload_n 0, (0, 0, 0), 0)) (by decide +kernel)) g0_z hc_z
    replace hc_z := rn_getI (v := rg_v h 44 11) (am_cur_of (i := (9, 3, .getfield 91, (4, 11, 420), 0)) (by decide +kernel)) (by decide +kernel) rfl hc_z
    replace hc_z := rn_goto (am_cur_of (i := (12, 3, .goto 4, (8, 0, 0), 0)) (by decide +kernel)) hc_z
    by_cases v789_z : (rg_v h 44 11) = 0
    · replace hc_z := rn_swI (off := 52) (a := 9) (am_cur_of (i := (16, 52, .tableswitch 115 0 8 #[52, 59, 66, 73, 80, 87, 94, 101, 108], (0, 0, 0), 0)) (by decide +kernel)) (by rw [v789_z]; decide) (by rw [v789_z]; decide) (by decide +kernel) hc_z
      replace hc_z := rn_aload_n (am_cur_of (i := (68, 1, .aload_n 0, (0, 0, 0), 0)) (by decide +kernel)) g0_z hc_z
      replace hc_z := rn_callV (M' := am_m27) (o := 44) (ar := []) (rest := []) (L := lv_args 0 [.ref 44]) (am_cur_of (i := (69, 3, .invokevirtual 112, (27, 761, 3), 0)) (by decide +kernel)) rfl rfl rfl rfl hc_z
      obtain ⟨r790_z, h791_z, q792_z, hc_z⟩ := hc_z
      have vo := rn_void rfl q792_z
      subst vo
      have pp := (sd_27_23 D V q792_z).1
      replace hc_z : rn _ _ _ _ [] _ _ _ := hc_z
      replace hc_z := rn_goto (am_cur_of (i := (72, 3, .goto 64, (39, 0, 0), 0)) (by decide +kernel)) hc_z
      replace hc_z := rn_vret (am_cur_of (i := (136, 1, .return_, (0, 0, 0), 0)) (by decide +kernel)) hc_z
      obtain ⟨e793_z, e794_z⟩ := hc_z
      rw [e794_z]
      exact pp
    by_cases v795_z : (rg_v h 44 11) = 1
    · replace hc_z := rn_swI (off := 59) (a := 12) (am_cur_of (i := (16, 52, .tableswitch 115 0 8 #[52, 59, 66, 73, 80, 87, 94, 101, 108], (0, 0, 0), 0)) (by decide +kernel)) (by rw [v795_z]; decide) (by rw [v795_z]; decide) (by decide +kernel) hc_z
      replace hc_z := rn_aload_n (am_cur_of (i := (75, 1, .aload_n 0, (0, 0, 0), 0)) (by decide +kernel)) g0_z hc_z
      replace hc_z := rn_callV (M' := am_m31) (o := 44) (ar := []) (rest := []) (L := lv_args 0 [.ref 44]) (am_cur_of (i := (76, 3, .invokevirtual 115, (31, 777, 3), 0)) (by decide +kernel)) rfl rfl rfl rfl hc_z
      obtain ⟨r796_z, h797_z, q798_z, hc_z⟩ := hc_z
      have vo := rn_void rfl q798_z
      subst vo
      have pp := (sd_31_23 D V q798_z).1
      replace hc_z : rn _ _ _ _ [] _ _ _ := hc_z
      replace hc_z := rn_goto (am_cur_of (i := (79, 3, .goto 57, (39, 0, 0), 0)) (by decide +kernel)) hc_z
      replace hc_z := rn_vret (am_cur_of (i := (136, 1, .return_, (0, 0, 0), 0)) (by decide +kernel)) hc_z
      obtain ⟨e799_z, e800_z⟩ := hc_z
      rw [e800_z]
      exact pp
    by_cases v801_z : (rg_v h 44 11) = 2
    · replace hc_z := rn_swI (off := 66) (a := 15) (am_cur_of (i := (16, 52, .tableswitch 115 0 8 #[52, 59, 66, 73, 80, 87, 94, 101, 108], (0, 0, 0), 0)) (by decide +kernel)) (by rw [v801_z]; decide) (by rw [v801_z]; decide) (by decide +kernel) hc_z
      replace hc_z := rn_aload_n (am_cur_of (i := (82, 1, .aload_n 0, (0, 0, 0), 0)) (by decide +kernel)) g0_z hc_z
      replace hc_z := rn_callV (M' := am_m35) (o := 44) (ar := []) (rest := []) (L := lv_args 0 [.ref 44]) (am_cur_of (i := (83, 3, .invokevirtual 118, (35, 793, 3), 0)) (by decide +kernel)) rfl rfl rfl rfl hc_z
      obtain ⟨r802_z, h803_z, q804_z, hc_z⟩ := hc_z
      have vo := rn_void rfl q804_z
      subst vo
      have pp := (sd_35_23 D V q804_z).1
      replace hc_z : rn _ _ _ _ [] _ _ _ := hc_z
      replace hc_z := rn_goto (am_cur_of (i := (86, 3, .goto 50, (39, 0, 0), 0)) (by decide +kernel)) hc_z
      replace hc_z := rn_vret (am_cur_of (i := (136, 1, .return_, (0, 0, 0), 0)) (by decide +kernel)) hc_z
      obtain ⟨e805_z, e806_z⟩ := hc_z
      rw [e806_z]
      exact pp
    by_cases v807_z : (rg_v h 44 11) = 3
    · replace hc_z := rn_swI (off := 73) (a := 18) (am_cur_of (i := (16, 52, .tableswitch 115 0 8 #[52, 59, 66, 73, 80, 87, 94, 101, 108], (0, 0, 0), 0)) (by decide +kernel)) (by rw [v807_z]; decide) (by rw [v807_z]; decide) (by decide +kernel) hc_z
      replace hc_z := rn_aload_n (am_cur_of (i := (89, 1, .aload_n 0, (0, 0, 0), 0)) (by decide +kernel)) g0_z hc_z
      replace hc_z := rn_callV (M' := am_m36) (o := 44) (ar := []) (rest := []) (L := lv_args 0 [.ref 44]) (am_cur_of (i := (90, 3, .invokevirtual 121, (36, 797, 3), 0)) (by decide +kernel)) rfl rfl rfl rfl hc_z
      obtain ⟨r808_z, h809_z, q810_z, hc_z⟩ := hc_z
      have vo := rn_void rfl q810_z
      subst vo
      have pp := (sd_36_23 D V q810_z).1
      replace hc_z : rn _ _ _ _ [] _ _ _ := hc_z
      replace hc_z := rn_goto (am_cur_of (i := (93, 3, .goto 43, (39, 0, 0), 0)) (by decide +kernel)) hc_z
      replace hc_z := rn_vret (am_cur_of (i := (136, 1, .return_, (0, 0, 0), 0)) (by decide +kernel)) hc_z
      obtain ⟨e811_z, e812_z⟩ := hc_z
      rw [e812_z]
      exact pp
    by_cases v813_z : (rg_v h 44 11) = 4
    · replace hc_z := rn_swI (off := 80) (a := 21) (am_cur_of (i := (16, 52, .tableswitch 115 0 8 #[52, 59, 66, 73, 80, 87, 94, 101, 108], (0, 0, 0), 0)) (by decide +kernel)) (by rw [v813_z]; decide) (by rw [v813_z]; decide) (by decide +kernel) hc_z
      replace hc_z := rn_aload_n (am_cur_of (i := (96, 1, .aload_n 0, (0, 0, 0), 0)) (by decide +kernel)) g0_z hc_z
      replace hc_z := rn_callV (M' := am_m37) (o := 44) (ar := []) (rest := []) (L := lv_args 0 [.ref 44]) (am_cur_of (i := (97, 3, .invokevirtual 124, (37, 801, 3), 0)) (by decide +kernel)) rfl rfl rfl rfl hc_z
      obtain ⟨r814_z, h815_z, q816_z, hc_z⟩ := hc_z
      have vo := rn_void rfl q816_z
      subst vo
      have pp := (sd_37_23 D V q816_z).1
      replace hc_z : rn _ _ _ _ [] _ _ _ := hc_z
      replace hc_z := rn_goto (am_cur_of (i := (100, 3, .goto 36, (39, 0, 0), 0)) (by decide +kernel)) hc_z
      replace hc_z := rn_vret (am_cur_of (i := (136, 1, .return_, (0, 0, 0), 0)) (by decide +kernel)) hc_z
      obtain ⟨e817_z, e818_z⟩ := hc_z
      rw [e818_z]
      exact pp
    by_cases v819_z : (rg_v h 44 11) = 5
    · replace hc_z := rn_swI (off := 87) (a := 24) (am_cur_of (i := (16, 52, .tableswitch 115 0 8 #[52, 59, 66, 73, 80, 87, 94, 101, 108], (0, 0, 0), 0)) (by decide +kernel)) (by rw [v819_z]; decide) (by rw [v819_z]; decide) (by decide +kernel) hc_z
      replace hc_z := rn_aload_n (am_cur_of (i := (103, 1, .aload_n 0, (0, 0, 0), 0)) (by decide +kernel)) g0_z hc_z
      replace hc_z := rn_callV (M' := am_m38) (o := 44) (ar := []) (rest := []) (L := lv_args 0 [.ref 44]) (am_cur_of (i := (104, 3, .invokevirtual 127, (38, 805, 3), 0)) (by decide +kernel)) rfl rfl rfl rfl hc_z
      obtain ⟨r820_z, h821_z, q822_z, hc_z⟩ := hc_z
      have vo := rn_void rfl q822_z
      subst vo
      have pp := (sd_38_23 D V q822_z).1
      replace hc_z : rn _ _ _ _ [] _ _ _ := hc_z
      replace hc_z := rn_goto (am_cur_of (i := (107, 3, .goto 29, (39, 0, 0), 0)) (by decide +kernel)) hc_z
      replace hc_z := rn_vret (am_cur_of (i := (136, 1, .return_, (0, 0, 0), 0)) (by decide +kernel)) hc_z
      obtain ⟨e823_z, e824_z⟩ := hc_z
      rw [e824_z]
      exact pp
    by_cases v825_z : (rg_v h 44 11) = 6
    · replace hc_z := rn_swI (off := 94) (a := 27) (am_cur_of (i := (16, 52, .tableswitch 115 0 8 #[52, 59, 66, 73, 80, 87, 94, 101, 108], (0, 0, 0), 0)) (by decide +kernel)) (by rw [v825_z]; decide) (by rw [v825_z]; decide) (by decide +kernel) hc_z
      replace hc_z := rn_aload_n (am_cur_of (i := (110, 1, .aload_n 0, (0, 0, 0), 0)) (by decide +kernel)) g0_z hc_z
      replace hc_z := rn_callV (M' := am_m40) (o := 44) (ar := []) (rest := []) (L := lv_args 0 [.ref 44]) (am_cur_of (i := (111, 3, .invokevirtual 130, (40, 813, 3), 0)) (by decide +kernel)) rfl rfl rfl rfl hc_z
      obtain ⟨r826_z, h827_z, q828_z, hc_z⟩ := hc_z
      have vo := rn_void rfl q828_z
      subst vo
      have pp := (sd_40_23 D V q828_z).1
      replace hc_z : rn _ _ _ _ [] _ _ _ := hc_z
      replace hc_z := rn_goto (am_cur_of (i := (114, 3, .goto 22, (39, 0, 0), 0)) (by decide +kernel)) hc_z
      replace hc_z := rn_vret (am_cur_of (i := (136, 1, .return_, (0, 0, 0), 0)) (by decide +kernel)) hc_z
      obtain ⟨e829_z, e830_z⟩ := hc_z
      rw [e830_z]
      exact pp
    by_cases v831_z : (rg_v h 44 11) = 7
    · replace hc_z := rn_swI (off := 101) (a := 30) (am_cur_of (i := (16, 52, .tableswitch 115 0 8 #[52, 59, 66, 73, 80, 87, 94, 101, 108], (0, 0, 0), 0)) (by decide +kernel)) (by rw [v831_z]; decide) (by rw [v831_z]; decide) (by decide +kernel) hc_z
      replace hc_z := rn_aload_n (am_cur_of (i := (117, 1, .aload_n 0, (0, 0, 0), 0)) (by decide +kernel)) g0_z hc_z
      replace hc_z := rn_callV (M' := am_m41) (o := 44) (ar := []) (rest := []) (L := lv_args 0 [.ref 44]) (am_cur_of (i := (118, 3, .invokevirtual 133, (41, 817, 3), 0)) (by decide +kernel)) rfl rfl rfl rfl hc_z
      obtain ⟨r832_z, h833_z, q834_z, hc_z⟩ := hc_z
      have vo := rn_void rfl q834_z
      subst vo
      have pp := (sd_41_23 D V q834_z).1
      replace hc_z : rn _ _ _ _ [] _ _ _ := hc_z
      replace hc_z := rn_goto (am_cur_of (i := (121, 3, .goto 15, (39, 0, 0), 0)) (by decide +kernel)) hc_z
      replace hc_z := rn_vret (am_cur_of (i := (136, 1, .return_, (0, 0, 0), 0)) (by decide +kernel)) hc_z
      obtain ⟨e835_z, e836_z⟩ := hc_z
      rw [e836_z]
      exact pp
    by_cases v837_z : (rg_v h 44 11) = 8
    · replace hc_z := rn_swI (off := 108) (a := 33) (am_cur_of (i := (16, 52, .tableswitch 115 0 8 #[52, 59, 66, 73, 80, 87, 94, 101, 108], (0, 0, 0), 0)) (by decide +kernel)) (by rw [v837_z]; decide) (by rw [v837_z]; decide) (by decide +kernel) hc_z
      replace hc_z := rn_aload_n (am_cur_of (i := (124, 1, .aload_n 0, (0, 0, 0), 0)) (by decide +kernel)) g0_z hc_z
      replace hc_z := rn_callV (M' := am_m42) (o := 44) (ar := []) (rest := []) (L := lv_args 0 [.ref 44]) (am_cur_of (i := (125, 3, .invokevirtual 136, (42, 822, 3), 0)) (by decide +kernel)) rfl rfl rfl rfl hc_z
      obtain ⟨r838_z, h839_z, q840_z, hc_z⟩ := hc_z
      have vo := rn_void rfl q840_z
      subst vo
      have pp := sd_42_23 D4 D V q840_z
      replace hc_z : rn _ _ _ _ [] _ _ _ := hc_z
      replace hc_z := rn_goto (am_cur_of (i := (128, 3, .goto 8, (39, 0, 0), 0)) (by decide +kernel)) hc_z
      replace hc_z := rn_vret (am_cur_of (i := (136, 1, .return_, (0, 0, 0), 0)) (by decide +kernel)) hc_z
      obtain ⟨e841_z, e842_z⟩ := hc_z
      rw [e842_z]
      exact pp
    have hsw : ∀ m, m < 9 → (m = 0 ∨ m = 1 ∨ m = 2 ∨ m = 3 ∨ m = 4 ∨ m = 5 ∨ m = 6 ∨ m = 7 ∨ m = 8 ∨ (#[52, 59, 66, 73, 80, 87, 94, 101, 108] : Array Int)[m]? = some 115) := by decide
    have wv789_z : ¬ (rg_v h 44 11).toInt = 0 := fun q => v789_z (Int32.toInt_inj.mp (q.trans (by decide)))
    have wv795_z : ¬ (rg_v h 44 11).toInt = 1 := fun q => v795_z (Int32.toInt_inj.mp (q.trans (by decide)))
    have wv801_z : ¬ (rg_v h 44 11).toInt = 2 := fun q => v801_z (Int32.toInt_inj.mp (q.trans (by decide)))
    have wv807_z : ¬ (rg_v h 44 11).toInt = 3 := fun q => v807_z (Int32.toInt_inj.mp (q.trans (by decide)))
    have wv813_z : ¬ (rg_v h 44 11).toInt = 4 := fun q => v813_z (Int32.toInt_inj.mp (q.trans (by decide)))
    have wv819_z : ¬ (rg_v h 44 11).toInt = 5 := fun q => v819_z (Int32.toInt_inj.mp (q.trans (by decide)))
    have wv825_z : ¬ (rg_v h 44 11).toInt = 6 := fun q => v825_z (Int32.toInt_inj.mp (q.trans (by decide)))
    have wv831_z : ¬ (rg_v h 44 11).toInt = 7 := fun q => v831_z (Int32.toInt_inj.mp (q.trans (by decide)))
    have wv837_z : ¬ (rg_v h 44 11).toInt = 8 := fun q => v837_z (Int32.toInt_inj.mp (q.trans (by decide)))
    have hx_z : (rg_v h 44 11).toInt < 0 ∨ 8 < (rg_v h 44 11).toInt ∨ (#[52, 59, 66, 73, 80, 87, 94, 101, 108] : Array Int)[((rg_v h 44 11).toInt - 0).toNat]? = some 115 := by
      by_cases q1_z : (rg_v h 44 11).toInt < 0
      · exact Or.inl q1_z
      · by_cases q2_z : 8 < (rg_v h 44 11).toInt
        · exact Or.inr (Or.inl q2_z)
        · refine Or.inr (Or.inr ?_)
          rcases hsw ((rg_v h 44 11).toInt - 0).toNat (by omega) with qq | qq | qq | qq | qq | qq | qq | qq | qq | qq <;> first | exact qq | (exfalso; omega)
    replace hc_z := rn_swX (a := 36) (am_cur_of (i := (16, 52, .tableswitch 115 0 8 #[52, 59, 66, 73, 80, 87, 94, 101, 108], (0, 0, 0), 0)) (by decide +kernel)) hx_z (by decide +kernel) hc_z
    replace hc_z := rn_aload_n (am_cur_of (i := (131, 1, .aload_n 0, (0, 0, 0), 0)) (by decide +kernel)) g0_z hc_z
    replace hc_z := rn_iconst (w := 1) (am_cur_of (i := (132, 1, .iconst 1, (0, 0, 0), 0)) (by decide +kernel)) (by decide) hc_z
    replace hc_z := rn_callV (M' := am_m29) (o := 44) (ar := [.int 1]) (rest := []) (L := lv_args 0 [.ref 44, .int 1]) (am_cur_of (i := (133, 3, .invokevirtual 108, (29, 769, 3), 0)) (by decide +kernel)) rfl rfl rfl rfl hc_z
    obtain ⟨r843_z, h844_z, q845_z, hc_z⟩ := hc_z
    have vo := rn_void rfl q845_z
    subst vo
    have pp := pv_rd (by decide) (rd_of (a := 29) (by decide) rfl q845_z) V
    replace hc_z : rn _ _ _ _ [] _ _ _ := hc_z
    replace hc_z := rn_vret (am_cur_of (i := (136, 1, .return_, (0, 0, 0), 0)) (by decide +kernel)) hc_z
    obtain ⟨e846_z, e847_z⟩ := hc_z
    rw [e847_z]
    exact pp
theorem sd_l23 {r : Option Value} {h' : am_H} : ∀ (f : Nat) (i : Int32) (ls : am_L) (h : am_H), h 44 4 = .ref 1 → h 44 6 = .ref 23 → pv 23 h → am_get ls 0 = some (.ref 44) → am_get ls 4 = some (.int i) → rn f am_m18 31 ls [] h r h' → pv 23 h' := by
  intro f
  induction f with
  | zero => intro i ls h D4 D V g0_z g4_z hc_z; exact absurd hc_z rn_0
  | succ f ih_z =>
    intro i ls h D4 D V g0_z g4_z hc_z
    have z0_z : (0 : Int32).toInt = 0 := by decide
    replace hc_z := rn_iload (am_cur_of (i := (54, 2, .iload 4, (0, 0, 0), 0)) (by decide +kernel)) g4_z hc_z
    replace hc_z := rn_aload_n (am_cur_of (i := (56, 1, .aload_n 0, (0, 0, 0), 0)) (by decide +kernel)) g0_z hc_z
    replace hc_z := rn_getI (v := rg_v h 44 5) (am_cur_of (i := (57, 3, .getfield 37, (4, 5, 414), 0)) (by decide +kernel)) (by decide +kernel) rfl hc_z
    replace hc_z := rn_cmp (am_cur_of (i := (60, 3, .if_icmp .ge 31, (47, 0, 0), 0)) (by decide +kernel)) hc_z
    rcases hc_z with ⟨b848_z, hc_z⟩ | ⟨b848_z, hc_z⟩
    · replace b848_z : (rg_v h 44 5).toInt ≤ i.toInt := b848_z
      replace hc_z := rn_aload_n (am_cur_of (i := (91, 1, .aload_n 0, (0, 0, 0), 0)) (by decide +kernel)) g0_z hc_z
      replace hc_z := rn_getI (v := rg_v h 44 1) (am_cur_of (i := (92, 3, .getfield 51, (4, 1, 408), 0)) (by decide +kernel)) (by decide +kernel) rfl hc_z
      replace hc_z := rn_if (am_cur_of (i := (95, 3, .ifCond .ne 10, (53, 0, 0), 0)) (by decide +kernel)) hc_z
      rcases hc_z with ⟨b849_z, hc_z⟩ | ⟨b849_z, hc_z⟩
      · replace b849_z : ¬ (rg_v h 44 1) = (0 : Int32) ∧ ¬ (rg_v h 44 1).toInt = (0 : Int32).toInt := b849_z
        replace hc_z := rn_aload_n (am_cur_of (i := (105, 1, .aload_n 0, (0, 0, 0), 0)) (by decide +kernel)) g0_z hc_z
        replace hc_z := rn_getI (v := rg_v h 44 1) (am_cur_of (i := (106, 3, .getfield 51, (4, 1, 408), 0)) (by decide +kernel)) (by decide +kernel) rfl hc_z
        replace hc_z := rn_if (am_cur_of (i := (109, 3, .ifCond .ne 7, (58, 0, 0), 0)) (by decide +kernel)) hc_z
        rcases hc_z with ⟨b850_z, hc_z⟩ | ⟨b850_z, hc_z⟩
        · replace b850_z : ¬ (rg_v h 44 1) = (0 : Int32) ∧ ¬ (rg_v h 44 1).toInt = (0 : Int32).toInt := b850_z
          replace hc_z := rn_iconst (w := 0) (am_cur_of (i := (116, 1, .iconst 0, (0, 0, 0), 0)) (by decide +kernel)) (by decide) hc_z
          replace hc_z := rn_iret (am_cur_of (i := (117, 1, .ireturn, (0, 0, 0), 0)) (by decide +kernel)) hc_z
          obtain ⟨e851_z, e852_z⟩ := hc_z
          rw [e852_z]
          exact V
        · replace b850_z : (rg_v h 44 1) = (0 : Int32) ∧ (rg_v h 44 1).toInt = (0 : Int32).toInt := b850_z
          replace hc_z := rn_iconst (w := 1) (am_cur_of (i := (112, 1, .iconst 1, (0, 0, 0), 0)) (by decide +kernel)) (by decide) hc_z
          replace hc_z := rn_goto (am_cur_of (i := (113, 3, .goto 4, (59, 0, 0), 0)) (by decide +kernel)) hc_z
          replace hc_z := rn_iret (am_cur_of (i := (117, 1, .ireturn, (0, 0, 0), 0)) (by decide +kernel)) hc_z
          obtain ⟨e853_z, e854_z⟩ := hc_z
          rw [e854_z]
          exact V
      · replace b849_z : (rg_v h 44 1) = (0 : Int32) ∧ (rg_v h 44 1).toInt = (0 : Int32).toInt := b849_z
        replace hc_z := rn_aload_n (am_cur_of (i := (98, 1, .aload_n 0, (0, 0, 0), 0)) (by decide +kernel)) g0_z hc_z
        replace hc_z := rn_getM (x := 23) (am_cur_of (i := (99, 3, .getfield 25, (4, 6, 415), 0)) (by decide +kernel)) D hc_z
        replace hc_z := rn_callV (M' := am_m54) (o := 23) (ar := []) (rest := []) (L := lv_args 0 [.ref 23]) (am_cur_of (i := (102, 3, .invokevirtual 69, (54, 872, 3), 0)) (by decide +kernel)) rfl rfl rfl rfl hc_z
        obtain ⟨r855_z, h856_z, q857_z, hc_z⟩ := hc_z
        have vo := rn_void rfl q857_z
        subst vo
        have k4_z := kg_54_23 q857_z
        have V3 : pv 23 h856_z := pv_e (fun o k q => k4_z o k (fun e => by unfold pQ at q; omega)) V
        replace hc_z : rn _ _ _ _ [] _ _ _ := hc_z
        replace hc_z := rn_aload_n (am_cur_of (i := (105, 1, .aload_n 0, (0, 0, 0), 0)) (by decide +kernel)) g0_z hc_z
        replace hc_z := rn_getI (v := rg_v h856_z 44 1) (am_cur_of (i := (106, 3, .getfield 51, (4, 1, 408), 0)) (by decide +kernel)) (by decide +kernel) rfl hc_z
        replace hc_z := rn_if (am_cur_of (i := (109, 3, .ifCond .ne 7, (58, 0, 0), 0)) (by decide +kernel)) hc_z
        rcases hc_z with ⟨b858_z, hc_z⟩ | ⟨b858_z, hc_z⟩
        · replace b858_z : ¬ (rg_v h856_z 44 1) = (0 : Int32) ∧ ¬ (rg_v h856_z 44 1).toInt = (0 : Int32).toInt := b858_z
          replace hc_z := rn_iconst (w := 0) (am_cur_of (i := (116, 1, .iconst 0, (0, 0, 0), 0)) (by decide +kernel)) (by decide) hc_z
          replace hc_z := rn_iret (am_cur_of (i := (117, 1, .ireturn, (0, 0, 0), 0)) (by decide +kernel)) hc_z
          obtain ⟨e859_z, e860_z⟩ := hc_z
          rw [e860_z]
          exact V3
        · replace b858_z : (rg_v h856_z 44 1) = (0 : Int32) ∧ (rg_v h856_z 44 1).toInt = (0 : Int32).toInt := b858_z
          replace hc_z := rn_iconst (w := 1) (am_cur_of (i := (112, 1, .iconst 1, (0, 0, 0), 0)) (by decide +kernel)) (by decide) hc_z
          replace hc_z := rn_goto (am_cur_of (i := (113, 3, .goto 4, (59, 0, 0), 0)) (by decide +kernel)) hc_z
          replace hc_z := rn_iret (am_cur_of (i := (117, 1, .ireturn, (0, 0, 0), 0)) (by decide +kernel)) hc_z
          obtain ⟨e861_z, e862_z⟩ := hc_z
          rw [e862_z]
          exact V3
    · replace b848_z : i.toInt < (rg_v h 44 5).toInt := b848_z
      replace hc_z := rn_aload_n (am_cur_of (i := (63, 1, .aload_n 0, (0, 0, 0), 0)) (by decide +kernel)) g0_z hc_z
      replace hc_z := rn_getI (v := rg_v h 44 1) (am_cur_of (i := (64, 3, .getfield 51, (4, 1, 408), 0)) (by decide +kernel)) (by decide +kernel) rfl hc_z
      replace hc_z := rn_if (am_cur_of (i := (67, 3, .ifCond .ne 24, (47, 0, 0), 0)) (by decide +kernel)) hc_z
      rcases hc_z with ⟨b863_z, hc_z⟩ | ⟨b863_z, hc_z⟩
      · replace b863_z : ¬ (rg_v h 44 1) = (0 : Int32) ∧ ¬ (rg_v h 44 1).toInt = (0 : Int32).toInt := b863_z
        replace hc_z := rn_aload_n (am_cur_of (i := (91, 1, .aload_n 0, (0, 0, 0), 0)) (by decide +kernel)) g0_z hc_z
        replace hc_z := rn_getI (v := rg_v h 44 1) (am_cur_of (i := (92, 3, .getfield 51, (4, 1, 408), 0)) (by decide +kernel)) (by decide +kernel) rfl hc_z
        replace hc_z := rn_if (am_cur_of (i := (95, 3, .ifCond .ne 10, (53, 0, 0), 0)) (by decide +kernel)) hc_z
        rcases hc_z with ⟨b864_z, hc_z⟩ | ⟨b864_z, hc_z⟩
        · replace b864_z : ¬ (rg_v h 44 1) = (0 : Int32) ∧ ¬ (rg_v h 44 1).toInt = (0 : Int32).toInt := b864_z
          replace hc_z := rn_aload_n (am_cur_of (i := (105, 1, .aload_n 0, (0, 0, 0), 0)) (by decide +kernel)) g0_z hc_z
          replace hc_z := rn_getI (v := rg_v h 44 1) (am_cur_of (i := (106, 3, .getfield 51, (4, 1, 408), 0)) (by decide +kernel)) (by decide +kernel) rfl hc_z
          replace hc_z := rn_if (am_cur_of (i := (109, 3, .ifCond .ne 7, (58, 0, 0), 0)) (by decide +kernel)) hc_z
          rcases hc_z with ⟨b865_z, hc_z⟩ | ⟨b865_z, hc_z⟩
          · replace b865_z : ¬ (rg_v h 44 1) = (0 : Int32) ∧ ¬ (rg_v h 44 1).toInt = (0 : Int32).toInt := b865_z
            replace hc_z := rn_iconst (w := 0) (am_cur_of (i := (116, 1, .iconst 0, (0, 0, 0), 0)) (by decide +kernel)) (by decide) hc_z
            replace hc_z := rn_iret (am_cur_of (i := (117, 1, .ireturn, (0, 0, 0), 0)) (by decide +kernel)) hc_z
            obtain ⟨e866_z, e867_z⟩ := hc_z
            rw [e867_z]
            exact V
          · replace b865_z : (rg_v h 44 1) = (0 : Int32) ∧ (rg_v h 44 1).toInt = (0 : Int32).toInt := b865_z
            replace hc_z := rn_iconst (w := 1) (am_cur_of (i := (112, 1, .iconst 1, (0, 0, 0), 0)) (by decide +kernel)) (by decide) hc_z
            replace hc_z := rn_goto (am_cur_of (i := (113, 3, .goto 4, (59, 0, 0), 0)) (by decide +kernel)) hc_z
            replace hc_z := rn_iret (am_cur_of (i := (117, 1, .ireturn, (0, 0, 0), 0)) (by decide +kernel)) hc_z
            obtain ⟨e868_z, e869_z⟩ := hc_z
            rw [e869_z]
            exact V
        · replace b864_z : (rg_v h 44 1) = (0 : Int32) ∧ (rg_v h 44 1).toInt = (0 : Int32).toInt := b864_z
          replace hc_z := rn_aload_n (am_cur_of (i := (98, 1, .aload_n 0, (0, 0, 0), 0)) (by decide +kernel)) g0_z hc_z
          replace hc_z := rn_getM (x := 23) (am_cur_of (i := (99, 3, .getfield 25, (4, 6, 415), 0)) (by decide +kernel)) D hc_z
          replace hc_z := rn_callV (M' := am_m54) (o := 23) (ar := []) (rest := []) (L := lv_args 0 [.ref 23]) (am_cur_of (i := (102, 3, .invokevirtual 69, (54, 872, 3), 0)) (by decide +kernel)) rfl rfl rfl rfl hc_z
          obtain ⟨r870_z, h871_z, q872_z, hc_z⟩ := hc_z
          have vo := rn_void rfl q872_z
          subst vo
          have k4_z := kg_54_23 q872_z
          have V3 : pv 23 h871_z := pv_e (fun o k q => k4_z o k (fun e => by unfold pQ at q; omega)) V
          replace hc_z : rn _ _ _ _ [] _ _ _ := hc_z
          replace hc_z := rn_aload_n (am_cur_of (i := (105, 1, .aload_n 0, (0, 0, 0), 0)) (by decide +kernel)) g0_z hc_z
          replace hc_z := rn_getI (v := rg_v h871_z 44 1) (am_cur_of (i := (106, 3, .getfield 51, (4, 1, 408), 0)) (by decide +kernel)) (by decide +kernel) rfl hc_z
          replace hc_z := rn_if (am_cur_of (i := (109, 3, .ifCond .ne 7, (58, 0, 0), 0)) (by decide +kernel)) hc_z
          rcases hc_z with ⟨b873_z, hc_z⟩ | ⟨b873_z, hc_z⟩
          · replace b873_z : ¬ (rg_v h871_z 44 1) = (0 : Int32) ∧ ¬ (rg_v h871_z 44 1).toInt = (0 : Int32).toInt := b873_z
            replace hc_z := rn_iconst (w := 0) (am_cur_of (i := (116, 1, .iconst 0, (0, 0, 0), 0)) (by decide +kernel)) (by decide) hc_z
            replace hc_z := rn_iret (am_cur_of (i := (117, 1, .ireturn, (0, 0, 0), 0)) (by decide +kernel)) hc_z
            obtain ⟨e874_z, e875_z⟩ := hc_z
            rw [e875_z]
            exact V3
          · replace b873_z : (rg_v h871_z 44 1) = (0 : Int32) ∧ (rg_v h871_z 44 1).toInt = (0 : Int32).toInt := b873_z
            replace hc_z := rn_iconst (w := 1) (am_cur_of (i := (112, 1, .iconst 1, (0, 0, 0), 0)) (by decide +kernel)) (by decide) hc_z
            replace hc_z := rn_goto (am_cur_of (i := (113, 3, .goto 4, (59, 0, 0), 0)) (by decide +kernel)) hc_z
            replace hc_z := rn_iret (am_cur_of (i := (117, 1, .ireturn, (0, 0, 0), 0)) (by decide +kernel)) hc_z
            obtain ⟨e876_z, e877_z⟩ := hc_z
            rw [e877_z]
            exact V3
      · replace b863_z : (rg_v h 44 1) = (0 : Int32) ∧ (rg_v h 44 1).toInt = (0 : Int32).toInt := b863_z
        replace hc_z := rn_aload_n (am_cur_of (i := (70, 1, .aload_n 0, (0, 0, 0), 0)) (by decide +kernel)) g0_z hc_z
        replace hc_z := rn_getI (v := rg_v h 44 10) (am_cur_of (i := (71, 3, .getfield 60, (4, 10, 419), 0)) (by decide +kernel)) (by decide +kernel) rfl hc_z
        replace hc_z := rn_if (am_cur_of (i := (74, 3, .ifCond .eq 17, (47, 0, 0), 0)) (by decide +kernel)) hc_z
        rcases hc_z with ⟨b878_z, hc_z⟩ | ⟨b878_z, hc_z⟩
        · replace b878_z : (rg_v h 44 10) = (0 : Int32) ∧ (rg_v h 44 10).toInt = (0 : Int32).toInt := b878_z
          replace hc_z := rn_aload_n (am_cur_of (i := (91, 1, .aload_n 0, (0, 0, 0), 0)) (by decide +kernel)) g0_z hc_z
          replace hc_z := rn_getI (v := rg_v h 44 1) (am_cur_of (i := (92, 3, .getfield 51, (4, 1, 408), 0)) (by decide +kernel)) (by decide +kernel) rfl hc_z
          replace hc_z := rn_if (am_cur_of (i := (95, 3, .ifCond .ne 10, (53, 0, 0), 0)) (by decide +kernel)) hc_z
          rcases hc_z with ⟨b879_z, hc_z⟩ | ⟨b879_z, hc_z⟩
          · replace b879_z : ¬ (rg_v h 44 1) = (0 : Int32) ∧ ¬ (rg_v h 44 1).toInt = (0 : Int32).toInt := b879_z
            replace hc_z := rn_aload_n (am_cur_of (i := (105, 1, .aload_n 0, (0, 0, 0), 0)) (by decide +kernel)) g0_z hc_z
            replace hc_z := rn_getI (v := rg_v h 44 1) (am_cur_of (i := (106, 3, .getfield 51, (4, 1, 408), 0)) (by decide +kernel)) (by decide +kernel) rfl hc_z
            replace hc_z := rn_if (am_cur_of (i := (109, 3, .ifCond .ne 7, (58, 0, 0), 0)) (by decide +kernel)) hc_z
            rcases hc_z with ⟨b880_z, hc_z⟩ | ⟨b880_z, hc_z⟩
            · replace b880_z : ¬ (rg_v h 44 1) = (0 : Int32) ∧ ¬ (rg_v h 44 1).toInt = (0 : Int32).toInt := b880_z
              replace hc_z := rn_iconst (w := 0) (am_cur_of (i := (116, 1, .iconst 0, (0, 0, 0), 0)) (by decide +kernel)) (by decide) hc_z
              replace hc_z := rn_iret (am_cur_of (i := (117, 1, .ireturn, (0, 0, 0), 0)) (by decide +kernel)) hc_z
              obtain ⟨e881_z, e882_z⟩ := hc_z
              rw [e882_z]
              exact V
            · replace b880_z : (rg_v h 44 1) = (0 : Int32) ∧ (rg_v h 44 1).toInt = (0 : Int32).toInt := b880_z
              replace hc_z := rn_iconst (w := 1) (am_cur_of (i := (112, 1, .iconst 1, (0, 0, 0), 0)) (by decide +kernel)) (by decide) hc_z
              replace hc_z := rn_goto (am_cur_of (i := (113, 3, .goto 4, (59, 0, 0), 0)) (by decide +kernel)) hc_z
              replace hc_z := rn_iret (am_cur_of (i := (117, 1, .ireturn, (0, 0, 0), 0)) (by decide +kernel)) hc_z
              obtain ⟨e883_z, e884_z⟩ := hc_z
              rw [e884_z]
              exact V
          · replace b879_z : (rg_v h 44 1) = (0 : Int32) ∧ (rg_v h 44 1).toInt = (0 : Int32).toInt := b879_z
            replace hc_z := rn_aload_n (am_cur_of (i := (98, 1, .aload_n 0, (0, 0, 0), 0)) (by decide +kernel)) g0_z hc_z
            replace hc_z := rn_getM (x := 23) (am_cur_of (i := (99, 3, .getfield 25, (4, 6, 415), 0)) (by decide +kernel)) D hc_z
            replace hc_z := rn_callV (M' := am_m54) (o := 23) (ar := []) (rest := []) (L := lv_args 0 [.ref 23]) (am_cur_of (i := (102, 3, .invokevirtual 69, (54, 872, 3), 0)) (by decide +kernel)) rfl rfl rfl rfl hc_z
            obtain ⟨r885_z, h886_z, q887_z, hc_z⟩ := hc_z
            have vo := rn_void rfl q887_z
            subst vo
            have k4_z := kg_54_23 q887_z
            have V3 : pv 23 h886_z := pv_e (fun o k q => k4_z o k (fun e => by unfold pQ at q; omega)) V
            replace hc_z : rn _ _ _ _ [] _ _ _ := hc_z
            replace hc_z := rn_aload_n (am_cur_of (i := (105, 1, .aload_n 0, (0, 0, 0), 0)) (by decide +kernel)) g0_z hc_z
            replace hc_z := rn_getI (v := rg_v h886_z 44 1) (am_cur_of (i := (106, 3, .getfield 51, (4, 1, 408), 0)) (by decide +kernel)) (by decide +kernel) rfl hc_z
            replace hc_z := rn_if (am_cur_of (i := (109, 3, .ifCond .ne 7, (58, 0, 0), 0)) (by decide +kernel)) hc_z
            rcases hc_z with ⟨b888_z, hc_z⟩ | ⟨b888_z, hc_z⟩
            · replace b888_z : ¬ (rg_v h886_z 44 1) = (0 : Int32) ∧ ¬ (rg_v h886_z 44 1).toInt = (0 : Int32).toInt := b888_z
              replace hc_z := rn_iconst (w := 0) (am_cur_of (i := (116, 1, .iconst 0, (0, 0, 0), 0)) (by decide +kernel)) (by decide) hc_z
              replace hc_z := rn_iret (am_cur_of (i := (117, 1, .ireturn, (0, 0, 0), 0)) (by decide +kernel)) hc_z
              obtain ⟨e889_z, e890_z⟩ := hc_z
              rw [e890_z]
              exact V3
            · replace b888_z : (rg_v h886_z 44 1) = (0 : Int32) ∧ (rg_v h886_z 44 1).toInt = (0 : Int32).toInt := b888_z
              replace hc_z := rn_iconst (w := 1) (am_cur_of (i := (112, 1, .iconst 1, (0, 0, 0), 0)) (by decide +kernel)) (by decide) hc_z
              replace hc_z := rn_goto (am_cur_of (i := (113, 3, .goto 4, (59, 0, 0), 0)) (by decide +kernel)) hc_z
              replace hc_z := rn_iret (am_cur_of (i := (117, 1, .ireturn, (0, 0, 0), 0)) (by decide +kernel)) hc_z
              obtain ⟨e891_z, e892_z⟩ := hc_z
              rw [e892_z]
              exact V3
        · replace b878_z : ¬ (rg_v h 44 10) = (0 : Int32) ∧ ¬ (rg_v h 44 10).toInt = (0 : Int32).toInt := b878_z
          replace hc_z := rn_aload_n (am_cur_of (i := (77, 1, .aload_n 0, (0, 0, 0), 0)) (by decide +kernel)) g0_z hc_z
          replace hc_z := rn_callV (M' := am_m26) (o := 44) (ar := []) (rest := []) (L := lv_args 0 [.ref 44]) (am_cur_of (i := (78, 3, .invokevirtual 63, (26, 757, 3), 0)) (by decide +kernel)) rfl rfl rfl rfl hc_z
          obtain ⟨r893_z, h894_z, q895_z, hc_z⟩ := hc_z
          have vo := rn_void rfl q895_z
          subst vo
          have V1 := sd_26_23 D4 D V q895_z
          have k1_z := r4_of (a := 26) (by decide) rfl q895_z
          have E4 := k1_z.1.trans D4
          have E := k1_z.2.trans D
          replace hc_z : rn _ _ _ _ [] _ _ _ := hc_z
          replace hc_z := rn_aload_n (am_cur_of (i := (81, 1, .aload_n 0, (0, 0, 0), 0)) (by decide +kernel)) g0_z hc_z
          replace hc_z := rn_callV (M' := am_m53) (o := 44) (ar := []) (rest := []) (L := lv_args 0 [.ref 44]) (am_cur_of (i := (82, 3, .invokevirtual 66, (53, 868, 3), 0)) (by decide +kernel)) rfl rfl rfl rfl hc_z
          obtain ⟨r896_z, h897_z, q898_z, hc_z⟩ := hc_z
          have vo := rn_void rfl q898_z
          subst vo
          have V2 := pv_rd (by decide) (rd_of (a := 53) (by decide) rfl q898_z) V1
          have k2_z := r4_of (a := 53) (by decide) rfl q898_z
          have G4 := k2_z.1.trans E4
          have G := k2_z.2.trans E
          replace hc_z : rn _ _ _ _ [] _ _ _ := hc_z
          replace hc_z := rn_iinc (w := i + 1) (am_cur_of (i := (85, 3, .iinc 4 1, (0, 0, 0), 0)) (by decide +kernel)) g4_z rfl hc_z
          obtain ⟨_, s899_z, s900_z, g4_z, hc_z⟩ := hc_z
          replace g0_z := s899_z 0 _ (by decide) rfl g0_z
          clear s899_z s900_z
          replace hc_z := rn_gotoL (am_cur_of (i := (88, 3, .goto (-34), (31, 0, 0), 0)) (by decide +kernel)) hc_z
          exact ih_z (i + 1) _ _ G4 G V2 g0_z g4_z hc_z
theorem sd_18_23 {n : Nat} {r : Option Value} {h h' : am_H} {nn : Int32} (hc_z : rn n am_m18 0 (lv_args 0 [.ref 44, .ref 1, .int nn, .ref 23]) [] h r h') : pv 23 h' := by
  have g0_z : am_get (lv_args 0 [.ref 44, .ref 1, .int nn, .ref 23]) 0 = some (.ref 44) := rfl
  have g1_z : am_get (lv_args 0 [.ref 44, .ref 1, .int nn, .ref 23]) 1 = some (.ref 1) := rfl
  have g2_z : am_get (lv_args 0 [.ref 44, .ref 1, .int nn, .ref 23]) 2 = some (.int nn) := rfl
  have g3_z : am_get (lv_args 0 [.ref 44, .ref 1, .int nn, .ref 23]) 3 = some (.ref 23) := rfl
  replace hc_z := rn_aload_n (am_cur_of (i := (0, 1, .aload_n 0, (0, 0, 0), 0)) (by decide +kernel)) g0_z hc_z
  replace hc_z := rn_aload_n (am_cur_of (i := (1, 1, .aload_n 1, (0, 0, 0), 0)) (by decide +kernel)) g1_z hc_z
  replace hc_z := rn_put (am_cur_of (i := (2, 3, .putfield 19, (4, 4, 413), 0)) (by decide +kernel)) (by decide +kernel) hc_z
  replace hc_z := rn_aload_n (am_cur_of (i := (5, 1, .aload_n 0, (0, 0, 0), 0)) (by decide +kernel)) g0_z hc_z
  replace hc_z := rn_iload_n (am_cur_of (i := (6, 1, .iload_n 2, (0, 0, 0), 0)) (by decide +kernel)) g2_z hc_z
  replace hc_z := rn_put (am_cur_of (i := (7, 3, .putfield 37, (4, 5, 414), 0)) (by decide +kernel)) (by decide +kernel) hc_z
  replace hc_z := rn_aload_n (am_cur_of (i := (10, 1, .aload_n 0, (0, 0, 0), 0)) (by decide +kernel)) g0_z hc_z
  replace hc_z := rn_aload_n (am_cur_of (i := (11, 1, .aload_n 3, (0, 0, 0), 0)) (by decide +kernel)) g3_z hc_z
  replace hc_z := rn_put (am_cur_of (i := (12, 3, .putfield 25, (4, 6, 415), 0)) (by decide +kernel)) (by decide +kernel) hc_z
  replace hc_z := rn_aload_n (am_cur_of (i := (15, 1, .aload_n 0, (0, 0, 0), 0)) (by decide +kernel)) g0_z hc_z
  replace hc_z := rn_getM (x := 23) (am_cur_of (i := (16, 3, .getfield 25, (4, 6, 415), 0)) (by decide +kernel)) rfl hc_z
  replace hc_z := rn_callV (M' := am_m4) (o := 23) (ar := []) (rest := []) (L := lv_args 0 [.ref 23]) (am_cur_of (i := (19, 3, .invokevirtual 40, (4, 726, 3), 0)) (by decide +kernel)) rfl rfl rfl rfl hc_z
  obtain ⟨r926_z, h927_z, q928_z, hc_z⟩ := hc_z
  rcases tx_c4_23 q928_z with ⟨rfl, y929_z⟩
  replace y929_z := y929_z.symm
  subst y929_z
  replace hc_z : rn _ _ _ _ [] _ _ _ := hc_z
  replace hc_z := rn_aload_n (am_cur_of (i := (22, 1, .aload_n 0, (0, 0, 0), 0)) (by decide +kernel)) g0_z hc_z
  replace hc_z := rn_iconst (w := 0) (am_cur_of (i := (23, 1, .iconst 0, (0, 0, 0), 0)) (by decide +kernel)) (by decide) hc_z
  replace hc_z := rn_put (am_cur_of (i := (24, 3, .putfield 45, (4, 7, 416), 0)) (by decide +kernel)) (by decide +kernel) hc_z
  replace hc_z := rn_aload_n (am_cur_of (i := (27, 1, .aload_n 0, (0, 0, 0), 0)) (by decide +kernel)) g0_z hc_z
  replace hc_z := rn_iconst (w := 0) (am_cur_of (i := (28, 1, .iconst 0, (0, 0, 0), 0)) (by decide +kernel)) (by decide) hc_z
  replace hc_z := rn_put (am_cur_of (i := (29, 3, .putfield 48, (4, 0, 406), 0)) (by decide +kernel)) (by decide +kernel) hc_z
  replace hc_z := rn_aload_n (am_cur_of (i := (32, 1, .aload_n 0, (0, 0, 0), 0)) (by decide +kernel)) g0_z hc_z
  replace hc_z := rn_iconst (w := 0) (am_cur_of (i := (33, 1, .iconst 0, (0, 0, 0), 0)) (by decide +kernel)) (by decide) hc_z
  replace hc_z := rn_put (am_cur_of (i := (34, 3, .putfield 51, (4, 1, 408), 0)) (by decide +kernel)) (by decide +kernel) hc_z
  replace hc_z := rn_aload_n (am_cur_of (i := (37, 1, .aload_n 0, (0, 0, 0), 0)) (by decide +kernel)) g0_z hc_z
  replace hc_z := rn_iconst (w := (-1)) (am_cur_of (i := (38, 1, .iconst (-1), (0, 0, 0), 0)) (by decide +kernel)) (by decide) hc_z
  replace hc_z := rn_put (am_cur_of (i := (39, 3, .putfield 9, (4, 2, 410), 0)) (by decide +kernel)) (by decide +kernel) hc_z
  replace hc_z := rn_aload_n (am_cur_of (i := (42, 1, .aload_n 0, (0, 0, 0), 0)) (by decide +kernel)) g0_z hc_z
  replace hc_z := rn_iconst (w := 0) (am_cur_of (i := (43, 1, .iconst 0, (0, 0, 0), 0)) (by decide +kernel)) (by decide) hc_z
  replace hc_z := rn_put (am_cur_of (i := (44, 3, .putfield 54, (4, 8, 417), 0)) (by decide +kernel)) (by decide +kernel) hc_z
  replace hc_z := rn_aload_n (am_cur_of (i := (47, 1, .aload_n 0, (0, 0, 0), 0)) (by decide +kernel)) g0_z hc_z
  replace hc_z := rn_callV (M' := am_m19) (o := 44) (ar := []) (rest := []) (L := lv_args 0 [.ref 44]) (am_cur_of (i := (48, 3, .invokevirtual 57, (19, 727, 3), 0)) (by decide +kernel)) rfl rfl rfl rfl hc_z
  obtain ⟨r930_z, h931_z, q932_z, hc_z⟩ := hc_z
  have vo := rn_void rfl q932_z
  subst vo
  have k1_z := r4_of (a := 19) (by decide) rfl q932_z
  have V0 : pv 23 ((am_up (am_up (am_up (am_up (am_up (am_up (am_up (am_up (am_up (am_up (am_up (am_up (am_up (am_up (am_up (am_up (am_up (am_up (am_up (am_up (am_up (am_up (am_up (am_up (am_up (am_up (am_up (am_up (am_up (am_up h 44 4 (.ref 1)) 44 5 (.int nn)) 44 6 (.ref 23)) 23 0 (.int 500)) 23 1 (.int 0)) 23 2 (.int 0)) 23 4 (.int 0)) 23 7 (.int 0)) 23 8 (.int 0)) 23 9 (.int 0)) 23 12 (.int 0)) 23 16 (.int 0)) 23 17 (.int 0)) 23 18 (.int (-1))) 32 0 (.int 0)) 32 1 (.int 0)) 35 0 (.int 0)) 36 0 (.int 0)) 37 0 (.int 0)) 35 1 (.int 0)) 36 1 (.int 0)) 37 1 (.int 0)) 35 2 (.int 0)) 36 2 (.int 0)) 37 2 (.int 0)) 44 7 (.int 0)) 44 0 (.int 0)) 44 1 (.int 0)) 44 2 (.int (-1))) 44 8 (.int 0))) := by
    have q0_z : (500 : Int32).toInt = 500 := by decide
    have z0_z : (0 : Int32).toInt = 0 := by decide
    have ev_z : rg_v ((am_up (am_up (am_up (am_up (am_up (am_up (am_up (am_up (am_up (am_up (am_up (am_up (am_up (am_up (am_up (am_up (am_up (am_up (am_up (am_up (am_up (am_up (am_up (am_up (am_up (am_up (am_up (am_up (am_up (am_up h 44 4 (.ref 1)) 44 5 (.int nn)) 44 6 (.ref 23)) 23 0 (.int 500)) 23 1 (.int 0)) 23 2 (.int 0)) 23 4 (.int 0)) 23 7 (.int 0)) 23 8 (.int 0)) 23 9 (.int 0)) 23 12 (.int 0)) 23 16 (.int 0)) 23 17 (.int 0)) 23 18 (.int (-1))) 32 0 (.int 0)) 32 1 (.int 0)) 35 0 (.int 0)) 36 0 (.int 0)) 37 0 (.int 0)) 35 1 (.int 0)) 36 1 (.int 0)) 37 1 (.int 0)) 35 2 (.int 0)) 36 2 (.int 0)) 37 2 (.int 0)) 44 7 (.int 0)) 44 0 (.int 0)) 44 1 (.int 0)) 44 2 (.int (-1))) 44 8 (.int 0))) 23 0 = 500 ∧ rg_v ((am_up (am_up (am_up (am_up (am_up (am_up (am_up (am_up (am_up (am_up (am_up (am_up (am_up (am_up (am_up (am_up (am_up (am_up (am_up (am_up (am_up (am_up (am_up (am_up (am_up (am_up (am_up (am_up (am_up (am_up h 44 4 (.ref 1)) 44 5 (.int nn)) 44 6 (.ref 23)) 23 0 (.int 500)) 23 1 (.int 0)) 23 2 (.int 0)) 23 4 (.int 0)) 23 7 (.int 0)) 23 8 (.int 0)) 23 9 (.int 0)) 23 12 (.int 0)) 23 16 (.int 0)) 23 17 (.int 0)) 23 18 (.int (-1))) 32 0 (.int 0)) 32 1 (.int 0)) 35 0 (.int 0)) 36 0 (.int 0)) 37 0 (.int 0)) 35 1 (.int 0)) 36 1 (.int 0)) 37 1 (.int 0)) 35 2 (.int 0)) 36 2 (.int 0)) 37 2 (.int 0)) 44 7 (.int 0)) 44 0 (.int 0)) 44 1 (.int 0)) 44 2 (.int (-1))) 44 8 (.int 0))) 23 1 = 0 ∧ rg_v ((am_up (am_up (am_up (am_up (am_up (am_up (am_up (am_up (am_up (am_up (am_up (am_up (am_up (am_up (am_up (am_up (am_up (am_up (am_up (am_up (am_up (am_up (am_up (am_up (am_up (am_up (am_up (am_up (am_up (am_up h 44 4 (.ref 1)) 44 5 (.int nn)) 44 6 (.ref 23)) 23 0 (.int 500)) 23 1 (.int 0)) 23 2 (.int 0)) 23 4 (.int 0)) 23 7 (.int 0)) 23 8 (.int 0)) 23 9 (.int 0)) 23 12 (.int 0)) 23 16 (.int 0)) 23 17 (.int 0)) 23 18 (.int (-1))) 32 0 (.int 0)) 32 1 (.int 0)) 35 0 (.int 0)) 36 0 (.int 0)) 37 0 (.int 0)) 35 1 (.int 0)) 36 1 (.int 0)) 37 1 (.int 0)) 35 2 (.int 0)) 36 2 (.int 0)) 37 2 (.int 0)) 44 7 (.int 0)) 44 0 (.int 0)) 44 1 (.int 0)) 44 2 (.int (-1))) 44 8 (.int 0))) 23 2 = 0 ∧ rg_v ((am_up (am_up (am_up (am_up (am_up (am_up (am_up (am_up (am_up (am_up (am_up (am_up (am_up (am_up (am_up (am_up (am_up (am_up (am_up (am_up (am_up (am_up (am_up (am_up (am_up (am_up (am_up (am_up (am_up (am_up h 44 4 (.ref 1)) 44 5 (.int nn)) 44 6 (.ref 23)) 23 0 (.int 500)) 23 1 (.int 0)) 23 2 (.int 0)) 23 4 (.int 0)) 23 7 (.int 0)) 23 8 (.int 0)) 23 9 (.int 0)) 23 12 (.int 0)) 23 16 (.int 0)) 23 17 (.int 0)) 23 18 (.int (-1))) 32 0 (.int 0)) 32 1 (.int 0)) 35 0 (.int 0)) 36 0 (.int 0)) 37 0 (.int 0)) 35 1 (.int 0)) 36 1 (.int 0)) 37 1 (.int 0)) 35 2 (.int 0)) 36 2 (.int 0)) 37 2 (.int 0)) 44 7 (.int 0)) 44 0 (.int 0)) 44 1 (.int 0)) 44 2 (.int (-1))) 44 8 (.int 0))) 23 4 = 0 ∧ rg_v ((am_up (am_up (am_up (am_up (am_up (am_up (am_up (am_up (am_up (am_up (am_up (am_up (am_up (am_up (am_up (am_up (am_up (am_up (am_up (am_up (am_up (am_up (am_up (am_up (am_up (am_up (am_up (am_up (am_up (am_up h 44 4 (.ref 1)) 44 5 (.int nn)) 44 6 (.ref 23)) 23 0 (.int 500)) 23 1 (.int 0)) 23 2 (.int 0)) 23 4 (.int 0)) 23 7 (.int 0)) 23 8 (.int 0)) 23 9 (.int 0)) 23 12 (.int 0)) 23 16 (.int 0)) 23 17 (.int 0)) 23 18 (.int (-1))) 32 0 (.int 0)) 32 1 (.int 0)) 35 0 (.int 0)) 36 0 (.int 0)) 37 0 (.int 0)) 35 1 (.int 0)) 36 1 (.int 0)) 37 1 (.int 0)) 35 2 (.int 0)) 36 2 (.int 0)) 37 2 (.int 0)) 44 7 (.int 0)) 44 0 (.int 0)) 44 1 (.int 0)) 44 2 (.int (-1))) 44 8 (.int 0))) 23 7 = 0 ∧ rg_v ((am_up (am_up (am_up (am_up (am_up (am_up (am_up (am_up (am_up (am_up (am_up (am_up (am_up (am_up (am_up (am_up (am_up (am_up (am_up (am_up (am_up (am_up (am_up (am_up (am_up (am_up (am_up (am_up (am_up (am_up h 44 4 (.ref 1)) 44 5 (.int nn)) 44 6 (.ref 23)) 23 0 (.int 500)) 23 1 (.int 0)) 23 2 (.int 0)) 23 4 (.int 0)) 23 7 (.int 0)) 23 8 (.int 0)) 23 9 (.int 0)) 23 12 (.int 0)) 23 16 (.int 0)) 23 17 (.int 0)) 23 18 (.int (-1))) 32 0 (.int 0)) 32 1 (.int 0)) 35 0 (.int 0)) 36 0 (.int 0)) 37 0 (.int 0)) 35 1 (.int 0)) 36 1 (.int 0)) 37 1 (.int 0)) 35 2 (.int 0)) 36 2 (.int 0)) 37 2 (.int 0)) 44 7 (.int 0)) 44 0 (.int 0)) 44 1 (.int 0)) 44 2 (.int (-1))) 44 8 (.int 0))) 23 8 = 0 ∧ rg_v ((am_up (am_up (am_up (am_up (am_up (am_up (am_up (am_up (am_up (am_up (am_up (am_up (am_up (am_up (am_up (am_up (am_up (am_up (am_up (am_up (am_up (am_up (am_up (am_up (am_up (am_up (am_up (am_up (am_up (am_up h 44 4 (.ref 1)) 44 5 (.int nn)) 44 6 (.ref 23)) 23 0 (.int 500)) 23 1 (.int 0)) 23 2 (.int 0)) 23 4 (.int 0)) 23 7 (.int 0)) 23 8 (.int 0)) 23 9 (.int 0)) 23 12 (.int 0)) 23 16 (.int 0)) 23 17 (.int 0)) 23 18 (.int (-1))) 32 0 (.int 0)) 32 1 (.int 0)) 35 0 (.int 0)) 36 0 (.int 0)) 37 0 (.int 0)) 35 1 (.int 0)) 36 1 (.int 0)) 37 1 (.int 0)) 35 2 (.int 0)) 36 2 (.int 0)) 37 2 (.int 0)) 44 7 (.int 0)) 44 0 (.int 0)) 44 1 (.int 0)) 44 2 (.int (-1))) 44 8 (.int 0))) 23 9 = 0 ∧ rg_v ((am_up (am_up (am_up (am_up (am_up (am_up (am_up (am_up (am_up (am_up (am_up (am_up (am_up (am_up (am_up (am_up (am_up (am_up (am_up (am_up (am_up (am_up (am_up (am_up (am_up (am_up (am_up (am_up (am_up (am_up h 44 4 (.ref 1)) 44 5 (.int nn)) 44 6 (.ref 23)) 23 0 (.int 500)) 23 1 (.int 0)) 23 2 (.int 0)) 23 4 (.int 0)) 23 7 (.int 0)) 23 8 (.int 0)) 23 9 (.int 0)) 23 12 (.int 0)) 23 16 (.int 0)) 23 17 (.int 0)) 23 18 (.int (-1))) 32 0 (.int 0)) 32 1 (.int 0)) 35 0 (.int 0)) 36 0 (.int 0)) 37 0 (.int 0)) 35 1 (.int 0)) 36 1 (.int 0)) 37 1 (.int 0)) 35 2 (.int 0)) 36 2 (.int 0)) 37 2 (.int 0)) 44 7 (.int 0)) 44 0 (.int 0)) 44 1 (.int 0)) 44 2 (.int (-1))) 44 8 (.int 0))) 23 12 = 0 := ⟨rfl, rfl, rfl, rfl, rfl, rfl, rfl, rfl⟩
    obtain ⟨f0_z, f1_z, f2_z, f4_z, f7_z, f8_z, f9_z, f12_z⟩ := ev_z
    refine ⟨?_, fun b hb_z => ?_, fun b hb_z => ?_, Or.inl ⟨f7_z, f8_z⟩, fun b hb_z => ?_, fun b hb_z => ?_, ?_⟩
    · unfold pv1_z
      rw [f0_z, f1_z]
      omega
    · rw [f2_z] at hb_z; omega
    · rw [f4_z] at hb_z; omega
    · rw [f9_z] at hb_z; omega
    · rw [f12_z] at hb_z; omega
    · unfold pv7_z
      rw [f2_z, f4_z, f9_z, f12_z]
      omega
  have V1 := pv_rd (by decide) (rd_of (a := 19) (by decide) rfl q932_z) V0
  have D4 : h931_z 44 4 = .ref 1 := k1_z.1.trans rfl
  have D : h931_z 44 6 = .ref 23 := k1_z.2.trans rfl
  replace hc_z : rn _ _ _ _ [] _ _ _ := hc_z
  replace hc_z := rn_iconst (w := 0) (am_cur_of (i := (51, 1, .iconst 0, (0, 0, 0), 0)) (by decide +kernel)) (by decide) hc_z
  replace hc_z := rn_istore (am_cur_of (i := (52, 2, .istore 4, (0, 0, 0), 0)) (by decide +kernel)) hc_z
  obtain ⟨_, s933_z, s934_z, g4_z, hc_z⟩ := hc_z
  replace g0_z := s933_z 0 _ (by decide) rfl g0_z
  replace g1_z := s933_z 1 _ (by decide) rfl g1_z
  replace g2_z := s933_z 2 _ (by decide) rfl g2_z
  replace g3_z := s933_z 3 _ (by decide) rfl g3_z
  clear s933_z s934_z
  exact sd_l23 _ 0 _ _ D4 D V1 g0_z g4_z hc_z
theorem sd_17_2 {n : Nat} {r : Option Value} {h h' : am_H} {nn : Int32} (D : h 0 3 = .ref 2) (E : h 0 2 = .ref 23) (hc_z : rn n am_m17 0 (lv_args 0 [.ref 0, .int nn]) [] h r h') : (h' 0 2 = .ref 2 → pv 2 h' ∧ (∀ j, 1 ≤ j → j < 17 → cS_z h' 48 j = if j = 2 then -1 else if j = 3 then rg_v h' 2 8 else 0) ∧ rg_v h' 60 2 = 0 ∧ rg_v h' 60 1 = rg_v h 60 1 ∧ rg_v h' 0 8 = 0) ∧ (h' 0 2 = .ref 23 → ∀ k, ¬ k = 1 → h' 0 k = h 0 k) := by
  have z0_z : (0 : Int32).toInt = 0 := by decide
  have g0_z : am_get (lv_args 0 [.ref 0, .int nn]) 0 = some (.ref 0) := rfl
  have g1_z : am_get (lv_args 0 [.ref 0, .int nn]) 1 = some (.int nn) := rfl
  replace hc_z := rn_iload_n (am_cur_of (i := (0, 1, .iload_n 1, (0, 0, 0), 0)) (by decide +kernel)) g1_z hc_z
  replace hc_z := rn_if (am_cur_of (i := (1, 3, .ifCond .lt 11, (6, 0, 0), 0)) (by decide +kernel)) hc_z
  rcases hc_z with ⟨b987_z, hc_z⟩ | ⟨b987_z, hc_z⟩
  · replace b987_z : nn.toInt < (0 : Int32).toInt := b987_z
    replace hc_z := rn_bipush (w := (-2)) (am_cur_of (i := (12, 2, .bipush (-2), (0, 0, 0), 0)) (by decide +kernel)) (by decide) hc_z
    replace hc_z := rn_iret (am_cur_of (i := (14, 1, .ireturn, (0, 0, 0), 0)) (by decide +kernel)) hc_z
    obtain ⟨e988_z, e989_z⟩ := hc_z
    rw [e989_z]
    exact ⟨fun q => (by rw [E] at q; cases q), fun _ k hk_z => rfl⟩
  · replace b987_z : (0 : Int32).toInt ≤ nn.toInt := b987_z
    replace hc_z := rn_iload_n (am_cur_of (i := (4, 1, .iload_n 1, (0, 0, 0), 0)) (by decide +kernel)) g1_z hc_z
    replace hc_z := rn_aload_n (am_cur_of (i := (5, 1, .aload_n 0, (0, 0, 0), 0)) (by decide +kernel)) g0_z hc_z
    replace hc_z := rn_getI (v := rg_v h 0 1) (am_cur_of (i := (6, 3, .getfield 99, (0, 1, 662), 0)) (by decide +kernel)) (by decide +kernel) rfl hc_z
    replace hc_z := rn_cmp (am_cur_of (i := (9, 3, .if_icmp .le 6, (8, 0, 0), 0)) (by decide +kernel)) hc_z
    rcases hc_z with ⟨b990_z, hc_z⟩ | ⟨b990_z, hc_z⟩
    · replace b990_z : nn.toInt ≤ (rg_v h 0 1).toInt := b990_z
      replace hc_z := rn_aload_n (am_cur_of (i := (15, 1, .aload_n 0, (0, 0, 0), 0)) (by decide +kernel)) g0_z hc_z
      replace hc_z := rn_iconst (w := 0) (am_cur_of (i := (16, 1, .iconst 0, (0, 0, 0), 0)) (by decide +kernel)) (by decide) hc_z
      replace hc_z := rn_put (am_cur_of (i := (17, 3, .putfield 99, (0, 1, 662), 0)) (by decide +kernel)) (by decide +kernel) hc_z
      replace hc_z := rn_aload_n (am_cur_of (i := (20, 1, .aload_n 0, (0, 0, 0), 0)) (by decide +kernel)) g0_z hc_z
      replace hc_z := rn_getR (x := 44) (am_cur_of (i := (21, 3, .getfield 30, (0, 4, 665), 0)) (by decide +kernel)) (by decide +kernel) hc_z
      replace hc_z := rn_aload_n (am_cur_of (i := (24, 1, .aload_n 0, (0, 0, 0), 0)) (by decide +kernel)) g0_z hc_z
      replace hc_z := rn_getR (x := 1) (am_cur_of (i := (25, 3, .getfield 11, (0, 0, 661), 0)) (by decide +kernel)) (by decide +kernel) hc_z
      replace hc_z := rn_iload_n (am_cur_of (i := (28, 1, .iload_n 1, (0, 0, 0), 0)) (by decide +kernel)) g1_z hc_z
      replace hc_z := rn_aload_n (am_cur_of (i := (29, 1, .aload_n 0, (0, 0, 0), 0)) (by decide +kernel)) g0_z hc_z
      replace hc_z := rn_getM (x := 2) (am_cur_of (i := (30, 3, .getfield 22, (0, 3, 664), 0)) (by decide +kernel)) (show (am_up h 0 1 (.int 0)) 0 3 = .ref 2 from D) hc_z
      replace hc_z := rn_callV (M' := am_m18) (o := 44) (ar := [.ref 2, .int nn, .ref 1]) (rest := []) (L := lv_args 0 [.ref 44, .ref 1, .int nn, .ref 2]) (am_cur_of (i := (33, 3, .invokevirtual 107, (18, 722, 3), 0)) (by decide +kernel)) rfl rfl rfl rfl hc_z
      obtain ⟨r991_z, h992_z, q993_z, hc_z⟩ := hc_z
      obtain ⟨vv, rfl⟩ := rn_ret (M := am_m18) rfl (by decide) q993_z
      have V := sd_18_2 q993_z
      have K0 := rf_keep rf_k0 rf_0all (a := 18) (by decide) rfl q993_z
      have D1 : h992_z 0 3 = .ref 2 := (K0 3).trans D
      have D2 : h992_z 0 2 = .ref 23 := (K0 2).trans E
      replace hc_z : rn _ _ _ _ [.int vv] _ _ _ := hc_z
      have QQ := q993_z
      replace hc_z := rn_if (am_cur_of (i := (36, 3, .ifCond .ne 5, (22, 0, 0), 0)) (by decide +kernel)) hc_z
      rcases hc_z with ⟨b994_z, hc_z⟩ | ⟨b994_z, hc_z⟩
      · replace b994_z : ¬ vv = (0 : Int32) ∧ ¬ vv.toInt = (0 : Int32).toInt := b994_z
        replace hc_z := rn_aload_n (am_cur_of (i := (41, 1, .aload_n 0, (0, 0, 0), 0)) (by decide +kernel)) g0_z hc_z
        replace hc_z := rn_getM (x := 2) (am_cur_of (i := (42, 3, .getfield 22, (0, 3, 664), 0)) (by decide +kernel)) D1 hc_z
        replace hc_z := rn_astore_n (am_cur_of (i := (45, 1, .astore_n 2, (0, 0, 0), 0)) (by decide +kernel)) hc_z
        obtain ⟨_, s995_z, s996_z, g2_z, hc_z⟩ := hc_z
        replace g0_z := s995_z 0 _ (by decide) rfl g0_z
        replace g1_z := s995_z 1 _ (by decide) rfl g1_z
        clear s995_z s996_z
        replace hc_z := rn_aload_n (am_cur_of (i := (46, 1, .aload_n 0, (0, 0, 0), 0)) (by decide +kernel)) g0_z hc_z
        replace hc_z := rn_aload_n (am_cur_of (i := (47, 1, .aload_n 0, (0, 0, 0), 0)) (by decide +kernel)) g0_z hc_z
        replace hc_z := rn_getM (x := 23) (am_cur_of (i := (48, 3, .getfield 18, (0, 2, 663), 0)) (by decide +kernel)) D2 hc_z
        replace hc_z := rn_put (am_cur_of (i := (51, 3, .putfield 22, (0, 3, 664), 0)) (by decide +kernel)) (by decide +kernel) hc_z
        replace hc_z := rn_aload_n (am_cur_of (i := (54, 1, .aload_n 0, (0, 0, 0), 0)) (by decide +kernel)) g0_z hc_z
        replace hc_z := rn_aload_n (am_cur_of (i := (55, 1, .aload_n 2, (0, 0, 0), 0)) (by decide +kernel)) g2_z hc_z
        replace hc_z := rn_put (am_cur_of (i := (56, 3, .putfield 18, (0, 2, 663), 0)) (by decide +kernel)) (by decide +kernel) hc_z
        replace hc_z := rn_aload_n (am_cur_of (i := (59, 1, .aload_n 0, (0, 0, 0), 0)) (by decide +kernel)) g0_z hc_z
        replace hc_z := rn_getR (x := 48) (am_cur_of (i := (60, 3, .getfield 37, (0, 5, 666), 0)) (by decide +kernel)) (by decide +kernel) hc_z
        replace hc_z := rn_aload_n (am_cur_of (i := (63, 1, .aload_n 0, (0, 0, 0), 0)) (by decide +kernel)) g0_z hc_z
        replace hc_z := rn_getM (x := 2) (am_cur_of (i := (64, 3, .getfield 18, (0, 2, 663), 0)) (by decide +kernel)) rfl hc_z
        replace hc_z := rn_callV (M' := am_m14) (o := 48) (ar := [.ref 2]) (rest := []) (L := lv_args 0 [.ref 48, .ref 2]) (am_cur_of (i := (67, 3, .invokevirtual 96, (14, 657, 3), 0)) (by decide +kernel)) rfl rfl rfl rfl hc_z
        obtain ⟨r997_z, h998_z, q999_z, hc_z⟩ := hc_z
        rcases kg_14_2 q999_z with ⟨rfl, y1000_z⟩
        replace y1000_z := y1000_z.symm
        subst y1000_z
        replace hc_z : rn _ _ _ _ [] _ _ _ := hc_z
        replace hc_z := rn_aload_n (am_cur_of (i := (70, 1, .aload_n 0, (0, 0, 0), 0)) (by decide +kernel)) g0_z hc_z
        replace hc_z := rn_getR (x := 60) (am_cur_of (i := (71, 3, .getfield 50, (0, 9, 670), 0)) (by decide +kernel)) (by decide +kernel) hc_z
        replace hc_z := rn_callV (M' := am_m57) (o := 60) (ar := []) (rest := []) (L := lv_args 0 [.ref 60]) (am_cur_of (i := (74, 3, .invokevirtual 111, (57, 886, 3), 0)) (by decide +kernel)) rfl rfl rfl rfl hc_z
        obtain ⟨r1001_z, h1002_z, q1003_z, hc_z⟩ := hc_z
        rcases kg_57 q1003_z with ⟨rfl, y1004_z⟩
        replace y1004_z := y1004_z.symm
        subst y1004_z
        replace hc_z : rn _ _ _ _ [] _ _ _ := hc_z
        replace hc_z := rn_aload_n (am_cur_of (i := (77, 1, .aload_n 0, (0, 0, 0), 0)) (by decide +kernel)) g0_z hc_z
        replace hc_z := rn_getR (x := 142) (am_cur_of (i := (78, 3, .getfield 57, (0, 10, 671), 0)) (by decide +kernel)) (by decide +kernel) hc_z
        replace hc_z := rn_callV (M' := am_m58) (o := 142) (ar := []) (rest := []) (L := lv_args 0 [.ref 142]) (am_cur_of (i := (81, 3, .invokevirtual 114, (58, 890, 3), 0)) (by decide +kernel)) rfl rfl rfl rfl hc_z
        obtain ⟨r1005_z, h1006_z, q1007_z, hc_z⟩ := hc_z
        rcases kg_58 q1007_z with ⟨rfl, y1008_z⟩
        replace y1008_z := y1008_z.symm
        subst y1008_z
        replace hc_z : rn _ _ _ _ [] _ _ _ := hc_z
        replace hc_z := rn_aload_n (am_cur_of (i := (84, 1, .aload_n 0, (0, 0, 0), 0)) (by decide +kernel)) g0_z hc_z
        replace hc_z := rn_iconst (w := 0) (am_cur_of (i := (85, 1, .iconst 0, (0, 0, 0), 0)) (by decide +kernel)) (by decide) hc_z
        replace hc_z := rn_put (am_cur_of (i := (86, 3, .putfield 115, (0, 8, 669), 0)) (by decide +kernel)) (by decide +kernel) hc_z
        replace hc_z := rn_aload_n (am_cur_of (i := (89, 1, .aload_n 0, (0, 0, 0), 0)) (by decide +kernel)) g0_z hc_z
        replace hc_z := rn_getR (x := 44) (am_cur_of (i := (90, 3, .getfield 30, (0, 4, 665), 0)) (by decide +kernel)) (by decide +kernel) hc_z
        replace hc_z := rn_getI (v := rg_v h992_z 44 0) (am_cur_of (i := (93, 3, .getfield 119, (4, 0, 407), 0)) (by decide +kernel)) (by decide +kernel) (show rg_v (am_up (am_up (am_up (am_up (am_up (am_up (am_up (am_up (am_up (am_up (am_up (am_up (am_up (am_up (am_up (am_up (am_up (am_up (am_up (am_up (am_up (am_up (am_up h992_z 0 3 (.ref 23)) 0 2 (.ref 2)) 48 0 (.int (rg_v h992_z 2 1))) 48 1 (.int 0)) 48 2 (.int (-1))) 48 3 (.int (rg_v h992_z 2 8))) 48 4 (.int 0)) 49 0 (.int 0)) 50 0 (.int 0)) 51 0 (.int 0)) 49 1 (.int 0)) 50 1 (.int 0)) 51 1 (.int 0)) 49 2 (.int 0)) 50 2 (.int 0)) 51 2 (.int 0)) 49 3 (.int 0)) 50 3 (.int 0)) 51 3 (.int 0)) 60 2 (.int 0)) 142 0 (.int 0)) 142 1 (.int (-1))) 0 8 (.int 0)) 44 0 = rg_v h992_z 44 0 from rfl) hc_z
        replace hc_z := rn_iret (am_cur_of (i := (96, 1, .ireturn, (0, 0, 0), 0)) (by decide +kernel)) hc_z
        obtain ⟨e1009_z, e1010_z⟩ := hc_z
        have eI : rg_v h992_z 60 1 = rg_v h 60 1 := by
          unfold rg_v
          rw [rx_18 (by decide) QQ 60 1 (Or.inr (Or.inl (by decide))), up_ne (by omega)]
        rw [e1010_z]
        refine ⟨fun _ => ⟨pv_e (fun o k q => by
          have q2_z : (o = 2 ∧ ¬ k = 18) ∨ (2 + 2 ≤ o ∧ o ≤ 2 + 8) ∨ (2 + 17 ≤ o ∧ o ≤ 2 + 20) := q
          exact (rg_v_other (by omega)).trans ((rg_v_other (by omega)).trans ((rg_v_other (by omega)).trans ((rg_v_other (by omega)).trans ((rg_v_other (by omega)).trans ((rg_v_other (by omega)).trans ((rg_v_other (by omega)).trans ((rg_v_other (by omega)).trans ((rg_v_other (by omega)).trans ((rg_v_other (by omega)).trans ((rg_v_other (by omega)).trans ((rg_v_other (by omega)).trans ((rg_v_other (by omega)).trans ((rg_v_other (by omega)).trans ((rg_v_other (by omega)).trans ((rg_v_other (by omega)).trans ((rg_v_other (by omega)).trans ((rg_v_other (by omega)).trans ((rg_v_other (by omega)).trans ((rg_v_other (by omega)).trans ((rg_v_other (by omega)).trans ((rg_v_other (by omega)).trans ((rg_v_other (by omega)).trans (rfl)))))))))))))))))))))))) V, fun j j1_z j17_z => ?_, rfl, ?_, rfl⟩, fun q => by
          have q2_z : (Value.ref 2) = Value.ref 23 := q
          cases q2_z⟩
        · match j, j1_z, j17_z with
          | 1, _, _ => rfl
          | 2, _, _ => rfl
          | 3, _, _ => rfl
          | 4, _, _ => rfl
          | 5, _, _ => rfl
          | 6, _, _ => rfl
          | 7, _, _ => rfl
          | 8, _, _ => rfl
          | 9, _, _ => rfl
          | 10, _, _ => rfl
          | 11, _, _ => rfl
          | 12, _, _ => rfl
          | 13, _, _ => rfl
          | 14, _, _ => rfl
          | 15, _, _ => rfl
          | 16, _, _ => rfl
          | j + 17, _, h => omega
        · exact Eq.trans rfl eI
      · replace b994_z : vv = (0 : Int32) ∧ vv.toInt = (0 : Int32).toInt := b994_z
        replace hc_z := rn_iconst (w := (-1)) (am_cur_of (i := (39, 1, .iconst (-1), (0, 0, 0), 0)) (by decide +kernel)) (by decide) hc_z
        replace hc_z := rn_iret (am_cur_of (i := (40, 1, .ireturn, (0, 0, 0), 0)) (by decide +kernel)) hc_z
        obtain ⟨e1011_z, e1012_z⟩ := hc_z
        rw [e1012_z]
        exact ⟨fun q => (by rw [D2] at q; cases q), fun _ k hk_z => (K0 k).trans (up_ne (by omega))⟩
    · replace b990_z : (rg_v h 0 1).toInt < nn.toInt := b990_z
      replace hc_z := rn_bipush (w := (-2)) (am_cur_of (i := (12, 2, .bipush (-2), (0, 0, 0), 0)) (by decide +kernel)) (by decide) hc_z
      replace hc_z := rn_iret (am_cur_of (i := (14, 1, .ireturn, (0, 0, 0), 0)) (by decide +kernel)) hc_z
      obtain ⟨e1013_z, e1014_z⟩ := hc_z
      rw [e1014_z]
      exact ⟨fun q => (by rw [E] at q; cases q), fun _ k hk_z => rfl⟩
theorem sd_17_23 {n : Nat} {r : Option Value} {h h' : am_H} {nn : Int32} (D : h 0 3 = .ref 23) (E : h 0 2 = .ref 2) (hc_z : rn n am_m17 0 (lv_args 0 [.ref 0, .int nn]) [] h r h') : (h' 0 2 = .ref 23 → pv 23 h' ∧ (∀ j, 1 ≤ j → j < 17 → cS_z h' 48 j = if j = 2 then -1 else if j = 3 then rg_v h' 23 8 else 0) ∧ rg_v h' 60 2 = 0 ∧ rg_v h' 60 1 = rg_v h 60 1 ∧ rg_v h' 0 8 = 0) ∧ (h' 0 2 = .ref 2 → ∀ k, ¬ k = 1 → h' 0 k = h 0 k) := by
  have z0_z : (0 : Int32).toInt = 0 := by decide
  have g0_z : am_get (lv_args 0 [.ref 0, .int nn]) 0 = some (.ref 0) := rfl
  have g1_z : am_get (lv_args 0 [.ref 0, .int nn]) 1 = some (.int nn) := rfl
  replace hc_z := rn_iload_n (am_cur_of (i := (0, 1, .iload_n 1, (0, 0, 0), 0)) (by decide +kernel)) g1_z hc_z
  replace hc_z := rn_if (am_cur_of (i := (1, 3, .ifCond .lt 11, (6, 0, 0), 0)) (by decide +kernel)) hc_z
  rcases hc_z with ⟨b1015_z, hc_z⟩ | ⟨b1015_z, hc_z⟩
  · replace b1015_z : nn.toInt < (0 : Int32).toInt := b1015_z
    replace hc_z := rn_bipush (w := (-2)) (am_cur_of (i := (12, 2, .bipush (-2), (0, 0, 0), 0)) (by decide +kernel)) (by decide) hc_z
    replace hc_z := rn_iret (am_cur_of (i := (14, 1, .ireturn, (0, 0, 0), 0)) (by decide +kernel)) hc_z
    obtain ⟨e1016_z, e1017_z⟩ := hc_z
    rw [e1017_z]
    exact ⟨fun q => (by rw [E] at q; cases q), fun _ k hk_z => rfl⟩
  · replace b1015_z : (0 : Int32).toInt ≤ nn.toInt := b1015_z
    replace hc_z := rn_iload_n (am_cur_of (i := (4, 1, .iload_n 1, (0, 0, 0), 0)) (by decide +kernel)) g1_z hc_z
    replace hc_z := rn_aload_n (am_cur_of (i := (5, 1, .aload_n 0, (0, 0, 0), 0)) (by decide +kernel)) g0_z hc_z
    replace hc_z := rn_getI (v := rg_v h 0 1) (am_cur_of (i := (6, 3, .getfield 99, (0, 1, 662), 0)) (by decide +kernel)) (by decide +kernel) rfl hc_z
    replace hc_z := rn_cmp (am_cur_of (i := (9, 3, .if_icmp .le 6, (8, 0, 0), 0)) (by decide +kernel)) hc_z
    rcases hc_z with ⟨b1018_z, hc_z⟩ | ⟨b1018_z, hc_z⟩
    · replace b1018_z : nn.toInt ≤ (rg_v h 0 1).toInt := b1018_z
      replace hc_z := rn_aload_n (am_cur_of (i := (15, 1, .aload_n 0, (0, 0, 0), 0)) (by decide +kernel)) g0_z hc_z
      replace hc_z := rn_iconst (w := 0) (am_cur_of (i := (16, 1, .iconst 0, (0, 0, 0), 0)) (by decide +kernel)) (by decide) hc_z
      replace hc_z := rn_put (am_cur_of (i := (17, 3, .putfield 99, (0, 1, 662), 0)) (by decide +kernel)) (by decide +kernel) hc_z
      replace hc_z := rn_aload_n (am_cur_of (i := (20, 1, .aload_n 0, (0, 0, 0), 0)) (by decide +kernel)) g0_z hc_z
      replace hc_z := rn_getR (x := 44) (am_cur_of (i := (21, 3, .getfield 30, (0, 4, 665), 0)) (by decide +kernel)) (by decide +kernel) hc_z
      replace hc_z := rn_aload_n (am_cur_of (i := (24, 1, .aload_n 0, (0, 0, 0), 0)) (by decide +kernel)) g0_z hc_z
      replace hc_z := rn_getR (x := 1) (am_cur_of (i := (25, 3, .getfield 11, (0, 0, 661), 0)) (by decide +kernel)) (by decide +kernel) hc_z
      replace hc_z := rn_iload_n (am_cur_of (i := (28, 1, .iload_n 1, (0, 0, 0), 0)) (by decide +kernel)) g1_z hc_z
      replace hc_z := rn_aload_n (am_cur_of (i := (29, 1, .aload_n 0, (0, 0, 0), 0)) (by decide +kernel)) g0_z hc_z
      replace hc_z := rn_getM (x := 23) (am_cur_of (i := (30, 3, .getfield 22, (0, 3, 664), 0)) (by decide +kernel)) (show (am_up h 0 1 (.int 0)) 0 3 = .ref 23 from D) hc_z
      replace hc_z := rn_callV (M' := am_m18) (o := 44) (ar := [.ref 23, .int nn, .ref 1]) (rest := []) (L := lv_args 0 [.ref 44, .ref 1, .int nn, .ref 23]) (am_cur_of (i := (33, 3, .invokevirtual 107, (18, 722, 3), 0)) (by decide +kernel)) rfl rfl rfl rfl hc_z
      obtain ⟨r1019_z, h1020_z, q1021_z, hc_z⟩ := hc_z
      obtain ⟨vv, rfl⟩ := rn_ret (M := am_m18) rfl (by decide) q1021_z
      have V := sd_18_23 q1021_z
      have K0 := rf_keep rf_k0 rf_0all (a := 18) (by decide) rfl q1021_z
      have D1 : h1020_z 0 3 = .ref 23 := (K0 3).trans D
      have D2 : h1020_z 0 2 = .ref 2 := (K0 2).trans E
      replace hc_z : rn _ _ _ _ [.int vv] _ _ _ := hc_z
      have QQ := q1021_z
      replace hc_z := rn_if (am_cur_of (i := (36, 3, .ifCond .ne 5, (22, 0, 0), 0)) (by decide +kernel)) hc_z
      rcases hc_z with ⟨b1022_z, hc_z⟩ | ⟨b1022_z, hc_z⟩
      · replace b1022_z : ¬ vv = (0 : Int32) ∧ ¬ vv.toInt = (0 : Int32).toInt := b1022_z
        replace hc_z := rn_aload_n (am_cur_of (i := (41, 1, .aload_n 0, (0, 0, 0), 0)) (by decide +kernel)) g0_z hc_z
        replace hc_z := rn_getM (x := 23) (am_cur_of (i := (42, 3, .getfield 22, (0, 3, 664), 0)) (by decide +kernel)) D1 hc_z
        replace hc_z := rn_astore_n (am_cur_of (i := (45, 1, .astore_n 2, (0, 0, 0), 0)) (by decide +kernel)) hc_z
        obtain ⟨_, s1023_z, s1024_z, g2_z, hc_z⟩ := hc_z
        replace g0_z := s1023_z 0 _ (by decide) rfl g0_z
        replace g1_z := s1023_z 1 _ (by decide) rfl g1_z
        clear s1023_z s1024_z
        replace hc_z := rn_aload_n (am_cur_of (i := (46, 1, .aload_n 0, (0, 0, 0), 0)) (by decide +kernel)) g0_z hc_z
        replace hc_z := rn_aload_n (am_cur_of (i := (47, 1, .aload_n 0, (0, 0, 0), 0)) (by decide +kernel)) g0_z hc_z
        replace hc_z := rn_getM (x := 2) (am_cur_of (i := (48, 3, .getfield 18, (0, 2, 663), 0)) (by decide +kernel)) D2 hc_z
        replace hc_z := rn_put (am_cur_of (i := (51, 3, .putfield 22, (0, 3, 664), 0)) (by decide +kernel)) (by decide +kernel) hc_z
        replace hc_z := rn_aload_n (am_cur_of (i := (54, 1, .aload_n 0, (0, 0, 0), 0)) (by decide +kernel)) g0_z hc_z
        replace hc_z := rn_aload_n (am_cur_of (i := (55, 1, .aload_n 2, (0, 0, 0), 0)) (by decide +kernel)) g2_z hc_z
        replace hc_z := rn_put (am_cur_of (i := (56, 3, .putfield 18, (0, 2, 663), 0)) (by decide +kernel)) (by decide +kernel) hc_z
        replace hc_z := rn_aload_n (am_cur_of (i := (59, 1, .aload_n 0, (0, 0, 0), 0)) (by decide +kernel)) g0_z hc_z
        replace hc_z := rn_getR (x := 48) (am_cur_of (i := (60, 3, .getfield 37, (0, 5, 666), 0)) (by decide +kernel)) (by decide +kernel) hc_z
        replace hc_z := rn_aload_n (am_cur_of (i := (63, 1, .aload_n 0, (0, 0, 0), 0)) (by decide +kernel)) g0_z hc_z
        replace hc_z := rn_getM (x := 23) (am_cur_of (i := (64, 3, .getfield 18, (0, 2, 663), 0)) (by decide +kernel)) rfl hc_z
        replace hc_z := rn_callV (M' := am_m14) (o := 48) (ar := [.ref 23]) (rest := []) (L := lv_args 0 [.ref 48, .ref 23]) (am_cur_of (i := (67, 3, .invokevirtual 96, (14, 657, 3), 0)) (by decide +kernel)) rfl rfl rfl rfl hc_z
        obtain ⟨r1025_z, h1026_z, q1027_z, hc_z⟩ := hc_z
        rcases kg_14_23 q1027_z with ⟨rfl, y1028_z⟩
        replace y1028_z := y1028_z.symm
        subst y1028_z
        replace hc_z : rn _ _ _ _ [] _ _ _ := hc_z
        replace hc_z := rn_aload_n (am_cur_of (i := (70, 1, .aload_n 0, (0, 0, 0), 0)) (by decide +kernel)) g0_z hc_z
        replace hc_z := rn_getR (x := 60) (am_cur_of (i := (71, 3, .getfield 50, (0, 9, 670), 0)) (by decide +kernel)) (by decide +kernel) hc_z
        replace hc_z := rn_callV (M' := am_m57) (o := 60) (ar := []) (rest := []) (L := lv_args 0 [.ref 60]) (am_cur_of (i := (74, 3, .invokevirtual 111, (57, 886, 3), 0)) (by decide +kernel)) rfl rfl rfl rfl hc_z
        obtain ⟨r1029_z, h1030_z, q1031_z, hc_z⟩ := hc_z
        rcases kg_57 q1031_z with ⟨rfl, y1032_z⟩
        replace y1032_z := y1032_z.symm
        subst y1032_z
        replace hc_z : rn _ _ _ _ [] _ _ _ := hc_z
        replace hc_z := rn_aload_n (am_cur_of (i := (77, 1, .aload_n 0, (0, 0, 0), 0)) (by decide +kernel)) g0_z hc_z
        replace hc_z := rn_getR (x := 142) (am_cur_of (i := (78, 3, .getfield 57, (0, 10, 671), 0)) (by decide +kernel)) (by decide +kernel) hc_z
        replace hc_z := rn_callV (M' := am_m58) (o := 142) (ar := []) (rest := []) (L := lv_args 0 [.ref 142]) (am_cur_of (i := (81, 3, .invokevirtual 114, (58, 890, 3), 0)) (by decide +kernel)) rfl rfl rfl rfl hc_z
        obtain ⟨r1033_z, h1034_z, q1035_z, hc_z⟩ := hc_z
        rcases kg_58 q1035_z with ⟨rfl, y1036_z⟩
        replace y1036_z := y1036_z.symm
        subst y1036_z
        replace hc_z : rn _ _ _ _ [] _ _ _ := hc_z
        replace hc_z := rn_aload_n (am_cur_of (i := (84, 1, .aload_n 0, (0, 0, 0), 0)) (by decide +kernel)) g0_z hc_z
        replace hc_z := rn_iconst (w := 0) (am_cur_of (i := (85, 1, .iconst 0, (0, 0, 0), 0)) (by decide +kernel)) (by decide) hc_z
        replace hc_z := rn_put (am_cur_of (i := (86, 3, .putfield 115, (0, 8, 669), 0)) (by decide +kernel)) (by decide +kernel) hc_z
        replace hc_z := rn_aload_n (am_cur_of (i := (89, 1, .aload_n 0, (0, 0, 0), 0)) (by decide +kernel)) g0_z hc_z
        replace hc_z := rn_getR (x := 44) (am_cur_of (i := (90, 3, .getfield 30, (0, 4, 665), 0)) (by decide +kernel)) (by decide +kernel) hc_z
        replace hc_z := rn_getI (v := rg_v h1020_z 44 0) (am_cur_of (i := (93, 3, .getfield 119, (4, 0, 407), 0)) (by decide +kernel)) (by decide +kernel) (show rg_v (am_up (am_up (am_up (am_up (am_up (am_up (am_up (am_up (am_up (am_up (am_up (am_up (am_up (am_up (am_up (am_up (am_up (am_up (am_up (am_up (am_up (am_up (am_up h1020_z 0 3 (.ref 2)) 0 2 (.ref 23)) 48 0 (.int (rg_v h1020_z 23 1))) 48 1 (.int 0)) 48 2 (.int (-1))) 48 3 (.int (rg_v h1020_z 23 8))) 48 4 (.int 0)) 49 0 (.int 0)) 50 0 (.int 0)) 51 0 (.int 0)) 49 1 (.int 0)) 50 1 (.int 0)) 51 1 (.int 0)) 49 2 (.int 0)) 50 2 (.int 0)) 51 2 (.int 0)) 49 3 (.int 0)) 50 3 (.int 0)) 51 3 (.int 0)) 60 2 (.int 0)) 142 0 (.int 0)) 142 1 (.int (-1))) 0 8 (.int 0)) 44 0 = rg_v h1020_z 44 0 from rfl) hc_z
        replace hc_z := rn_iret (am_cur_of (i := (96, 1, .ireturn, (0, 0, 0), 0)) (by decide +kernel)) hc_z
        obtain ⟨e1037_z, e1038_z⟩ := hc_z
        have eI : rg_v h1020_z 60 1 = rg_v h 60 1 := by
          unfold rg_v
          rw [rx_18 (by decide) QQ 60 1 (Or.inr (Or.inl (by decide))), up_ne (by omega)]
        rw [e1038_z]
        refine ⟨fun _ => ⟨pv_e (fun o k q => by
          have q2_z : (o = 23 ∧ ¬ k = 18) ∨ (23 + 2 ≤ o ∧ o ≤ 23 + 8) ∨ (23 + 17 ≤ o ∧ o ≤ 23 + 20) := q
          exact (rg_v_other (by omega)).trans ((rg_v_other (by omega)).trans ((rg_v_other (by omega)).trans ((rg_v_other (by omega)).trans ((rg_v_other (by omega)).trans ((rg_v_other (by omega)).trans ((rg_v_other (by omega)).trans ((rg_v_other (by omega)).trans ((rg_v_other (by omega)).trans ((rg_v_other (by omega)).trans ((rg_v_other (by omega)).trans ((rg_v_other (by omega)).trans ((rg_v_other (by omega)).trans ((rg_v_other (by omega)).trans ((rg_v_other (by omega)).trans ((rg_v_other (by omega)).trans ((rg_v_other (by omega)).trans ((rg_v_other (by omega)).trans ((rg_v_other (by omega)).trans ((rg_v_other (by omega)).trans ((rg_v_other (by omega)).trans ((rg_v_other (by omega)).trans ((rg_v_other (by omega)).trans (rfl)))))))))))))))))))))))) V, fun j j1_z j17_z => ?_, rfl, ?_, rfl⟩, fun q => by
          have q2_z : (Value.ref 23) = Value.ref 2 := q
          cases q2_z⟩
        · match j, j1_z, j17_z with
          | 1, _, _ => rfl
          | 2, _, _ => rfl
          | 3, _, _ => rfl
          | 4, _, _ => rfl
          | 5, _, _ => rfl
          | 6, _, _ => rfl
          | 7, _, _ => rfl
          | 8, _, _ => rfl
          | 9, _, _ => rfl
          | 10, _, _ => rfl
          | 11, _, _ => rfl
          | 12, _, _ => rfl
          | 13, _, _ => rfl
          | 14, _, _ => rfl
          | 15, _, _ => rfl
          | 16, _, _ => rfl
          | j + 17, _, h => omega
        · exact Eq.trans rfl eI
      · replace b1022_z : vv = (0 : Int32) ∧ vv.toInt = (0 : Int32).toInt := b1022_z
        replace hc_z := rn_iconst (w := (-1)) (am_cur_of (i := (39, 1, .iconst (-1), (0, 0, 0), 0)) (by decide +kernel)) (by decide) hc_z
        replace hc_z := rn_iret (am_cur_of (i := (40, 1, .ireturn, (0, 0, 0), 0)) (by decide +kernel)) hc_z
        obtain ⟨e1039_z, e1040_z⟩ := hc_z
        rw [e1040_z]
        exact ⟨fun q => (by rw [D2] at q; cases q), fun _ k hk_z => (K0 k).trans (up_ne (by omega))⟩
    · replace b1018_z : (rg_v h 0 1).toInt < nn.toInt := b1018_z
      replace hc_z := rn_bipush (w := (-2)) (am_cur_of (i := (12, 2, .bipush (-2), (0, 0, 0), 0)) (by decide +kernel)) (by decide) hc_z
      replace hc_z := rn_iret (am_cur_of (i := (14, 1, .ireturn, (0, 0, 0), 0)) (by decide +kernel)) hc_z
      obtain ⟨e1041_z, e1042_z⟩ := hc_z
      rw [e1042_z]
      exact ⟨fun q => (by rw [E] at q; cases q), fun _ k hk_z => rfl⟩
