/-! ===== BOTH READERS: what stays behind a fault; a token, a number (wip/r/gen99qj.py) ===== -/
theorem rn_end_void {M : am_M} (hM : M.2.1.2.1 = none) {f : am_F} {r : am_O} (he : am_end M f = some r) : r.1 = none := by
  obtain ⟨cs, ls, st, ks, h, nc, ns⟩ := f
  unfold am_end at he
  split at he
  · cases he
  · rename_i heq
    cases heq
    split at he
    · split at he
      · rw [hM] at he
        cases he
      · cases he
    · split at he
      · rw [hM] at he
        cases he
      · cases he
    · split at he
      · rw [hM] at he
        dsimp only at he
        unfold am_ret at he
        cases hb_z : (Nat.ble nc M.2.2.1.2.2.1 && Nat.ble ns M.2.2.1.2.2.2) with
        | false => rw [hb_z] at he; cases he
        | true => rw [hb_z] at he; cases he; rfl
      · cases he
    · cases he
theorem rn_void_run {M : am_M} (hM : M.2.1.2.1 = none) : ∀ (n : Nat) (f : am_F) (r : am_O), am_run am_φ false n am_G0 M f = some r → r.1 = none := by
  intro n
  induction n with
  | zero => intro f r h; cases h
  | succ n ih_z =>
    intro f r h
    rw [am_run_s] at h
    split at h
    · rename_i r0_z he
      cases h
      exact rn_end_void hM he
    · split at h
      · exact ih_z _ _ h
      · cases h
theorem rn_void {n : Nat} {M : am_M} {k : Nat} {ls : am_L} {st : List Value} {h h' : am_H} {r : Option Value} (hM : M.2.1.2.1 = none) (hr : rn n M k ls st h r h') : r = none := by
  obtain ⟨-, -, nc, ns, m, -, hrun⟩ := hr
  exact rn_void_run hM m _ _ hrun
/-- what the class's reader calls -/
def rs_ok (a : Nat) : Bool := Nat.ble 19 a && Nat.ble a 53
def rs_w : rw_W := (fun ci_z f => !(Nat.beq (rg_cl ci_z f) 9) && !(Nat.beq ci_z 4 && (Nat.beq f 1 || Nat.beq f 2)), true, rs_ok)
/-- a fault stands -/
def rs_P (w q : Int32) (h : am_H) : Prop := rg_Gd h ∧ ¬ w = 0 ∧ rg_v h 44 1 = w ∧ rg_v h 44 2 = q
theorem rg_v_other {h : am_H} {o k o' k' : Nat} {v : Value} (hne : ¬ (o' = o ∧ k' = k)) : rg_v (am_up h o k v) o' k' = rg_v h o' k' := by
  unfold rg_v
  by_cases ho : o' = o
  · subst ho
    rw [am_up_same _ _ _ _ _ (fun e => hne ⟨rfl, e⟩)]
  · rw [am_up_other _ _ _ _ _ ho]
theorem rs_c4 : ∀ o, am_ks0[o]? = some (.inl 4) → o = 44 := by
  intro o ho
  have hl_z : o < am_ks0.length := (List.getElem?_eq_some_iff.mp ho).1
  rw [rg_len] at hl_z
  have := List.all_eq_true.mp (show (List.range 203).all (fun o => !(decide (am_ks0[o]? = some (.inl 4))) || Nat.beq o 44) = true by decide +kernel) o (List.mem_range.mpr hl_z)
  rw [ho, decide_eq_true rfl] at this
  exact Nat.eq_of_beq_eq_true this
theorem rs_k44 : am_ks0[44]? = some (.inl 4) := by decide +kernel
theorem rs_wP (w q : Int32) : rw_P rs_w (rs_P w q) := by
  refine ⟨fun h o ci_z f v hP hk_z hc_z hf_z => ?_, fun _ h o r n ty v hP hk_z ht hq_z hf_z => ?_⟩
  · have hc_z' : (!(Nat.beq (rg_cl ci_z f) 9) && !(Nat.beq ci_z 4 && (Nat.beq f 1 || Nat.beq f 2))) = true := hc_z
    rw [Bool.and_eq_true] at hc_z'
    refine ⟨rn_wP.1 h o ci_z f v hP.1 hk_z hc_z'.1 hf_z, hP.2.1, ?_, ?_⟩
    · rw [rg_v_other]
      · exact hP.2.2.1
      · rintro ⟨e1_z, e2_z⟩
        subst e1_z; subst e2_z
        rw [rs_k44] at hk_z
        cases hk_z
        exact absurd hc_z'.2 (by decide)
    · rw [rg_v_other]
      · exact hP.2.2.2
      · rintro ⟨e1_z, e2_z⟩
        subst e1_z; subst e2_z
        rw [rs_k44] at hk_z
        cases hk_z
        exact absurd hc_z'.2 (by decide)
  · have hne : ∀ k, ¬ ((44 : Nat) = o ∧ k = r) := by
      rintro k ⟨e1_z, -⟩
      subst e1_z
      rw [rs_k44] at hk_z
      cases hk_z
    exact ⟨rn_wP.2 rfl h o r n ty v hP.1 hk_z ht hq_z hf_z, hP.2.1, (rg_v_other (hne 1)).trans hP.2.2.1, (rg_v_other (hne 2)).trans hP.2.2.2⟩
def rs_M (a : Nat) : Bool := !(rs_ok a) || Nat.beq a 29 || (match am_prog[a]? with
  | some M => M.2.2.2.all (rw_I rs_w)
  | none => true)
set_option maxRecDepth 1000000 in
theorem rs_M_all : (List.range 256).all rs_M = true := by decide +kernel
section RSF
variable {n : Nat} {M : am_M} {k pc len : Nat} {an : Nat × Nat × Nat} {z : Int} {ls : am_L} {st : List Value} {h h' : am_H} {r : Option Value}
theorem rn_aload_any {j : Fin 4} (hn_z : am_cur M k (pc, len, .aload_n j, an, z)) (hr : rn n M k ls st h r h') : ∃ v, (∀ x : Int32, ¬ v = .int x) ∧ rn n M (k + 1) ls (v :: st) h r h' := by
  obtain ⟨nc, ns, m, f', hm_z, hone, hrun⟩ := rn_s hn_z (fun _ _ _ => rfl) hr
  simp only [am_one] at hone
  split at hone
  · rename_i x hx_z
    exact ⟨.ref x, (fun _ e => by cases e), rn_go (ls' := ls) (st' := .ref x :: st) hn_z (fun _ _ _ => rfl) (fun _ _ _ _ => by simp only [am_one, hx_z]) hr⟩
  · rename_i x hx_z
    exact ⟨.retAddr x, (fun _ e => by cases e), rn_go (ls' := ls) (st' := .retAddr x :: st) hn_z (fun _ _ _ => rfl) (fun _ _ _ _ => by simp only [am_one, hx_z]) hr⟩
  · cases hone
theorem rn_getf_any {idx ci_z f c : Nat} {v : Value} (hn_z : am_cur M k (pc, len, .getfield idx, (ci_z, f, c), z)) (hr : rn n M k ls (v :: st) h r h') : ∃ o, v = .ref o ∧ am_ks0[o]? = some (.inl ci_z) ∧ rn n M (k + 1) ls (h o f :: st) h r h' := by
  obtain ⟨nc, ns, m, f', hm_z, hone, hrun⟩ := rn_s hn_z (fun _ _ _ => rfl) hr
  simp only [am_one] at hone
  split at hone
  · rename_i o st0_z heq
    cases heq
    split at hone
    · rename_i cj hk_z
      obtain ⟨e, hx_z⟩ := rn_cond hone
      have e := Nat.eq_of_beq_eq_true e
      subst e
      exact ⟨o, rfl, hk_z, rn_getf hn_z (fun _ => rfl) hr⟩
    · cases hone
  · cases hone
end RSF
theorem rs_29 {w q : Int32} (n : Nat) (as : List Value) (h : am_H) (r : am_O) (hP : rs_P w q h) (hrun : am_run am_φ false n am_G0 am_m29 (am_m29.2.2.2, lv_args 0 as, [], am_ks0, h, 0, 0) = some r) : r.2.1 = am_ks0 ∧ rs_P w q r.2.2 := by
  have hK : rn_K am_m29.2.2.2 := rn_KM (a := 29) (by decide) rfl
  have hg := rn_run n am_m29 _ _ _ h 0 0 r hK hK hP.1 hrun
  obtain ⟨v, ks', h'⟩ := r
  dsimp only at hg
  obtain ⟨rfl, hG'⟩ := hg
  refine ⟨rfl, ?_⟩
  have hc_z : rn n am_m29 0 (lv_args 0 as) [] h v h' := ⟨hK, hP.1, 0, 0, n, Nat.le_refl _, hrun⟩
  obtain ⟨a, -, hc_z⟩ := rn_aload_any (am_cur_of (i := (0, 1, .aload_n 0, (0, 0, 0), 0)) (by decide +kernel)) hc_z
  obtain ⟨o, -, ho, hc_z⟩ := rn_getf_any (am_cur_of (i := (1, 3, .getfield 51, (4, 1, 408), 0)) (by decide +kernel)) hc_z
  have := rs_c4 o ho
  subst this
  rw [rg_int hP.1 rs_k44 (by decide) (by decide +kernel), hP.2.2.1] at hc_z
  rcases rn_if (am_cur_of (i := (4, 3, .ifCond .ne 16, (10, 0, 0), 0)) (by decide +kernel)) hc_z with ⟨-, hc_z⟩ | ⟨hb_z, hc_z⟩
  · obtain ⟨-, e⟩ := rn_vret (am_cur_of (i := (20, 1, .return_, (0, 0, 0), 0)) (by decide +kernel)) hc_z
    rw [e]
    exact hP
  · exact absurd hb_z.1 hP.2.1
theorem rs_C {w q : Int32} (a : Nat) (M : am_M) (ha_z : rs_ok a = true) (hM : am_prog[a]? = some M) : rw_K rs_w M.2.2.2 ∨ ∀ n as h r, rs_P w q h → am_run am_φ false n am_G0 M (M.2.2.2, lv_args 0 as, [], am_ks0, h, 0, 0) = some r → r.2.1 = am_ks0 ∧ rs_P w q r.2.2 := by
  have hl_z : a < am_prog.length := (List.getElem?_eq_some_iff.mp hM).1
  rw [am_prog_len] at hl_z
  have hb_z := List.all_eq_true.mp rs_M_all a (List.mem_range.mpr (by omega))
  by_cases h29_z : a = 29
  · subst h29_z
    have e : am_prog[29]? = some am_m29 := rfl
    rw [e] at hM
    cases hM
    exact Or.inr rs_29
  · unfold rs_M at hb_z
    rw [ha_z, hM, show Nat.beq a 29 = false from by cases q : Nat.beq a 29 with | false => rfl | true => exact absurd (Nat.eq_of_beq_eq_true q) h29_z] at hb_z
    exact Or.inl (List.all_eq_true.mp hb_z)
/-- behind a fault the class's reader leaves it as it is -/
theorem rs_stick {a n : Nat} {M : am_M} {k : Nat} {ls : am_L} {st : List Value} {h h' : am_H} {r : Option Value} {w q : Int32} (ha_z : rs_ok a = true) (h29_z : Nat.beq a 29 = false) (hM : am_prog[a]? = some M) (hw_z : ¬ w = 0) (e1_z : rg_v h 44 1 = w) (e2_z : rg_v h 44 2 = q) (hr : rn n M k ls st h r h') : rg_v h' 44 1 = w ∧ rg_v h' 44 2 = q := by
  obtain ⟨-, hG, nc, ns, m, -, hrun⟩ := hr
  have hl_z : a < am_prog.length := (List.getElem?_eq_some_iff.mp hM).1
  rw [am_prog_len] at hl_z
  have hb_z := List.all_eq_true.mp rs_M_all a (List.mem_range.mpr (by omega))
  unfold rs_M at hb_z
  rw [ha_z, hM, h29_z] at hb_z
  have hK : rw_K rs_w M.2.2.2 := List.all_eq_true.mp hb_z
  have := rw_run (rs_wP w q) rs_C m M _ ls st h nc ns _ hK (fun j hj_z => hK j (List.mem_of_mem_drop hj_z)) ⟨hG, hw_z, e1_z, e2_z⟩ hrun
  exact this.2.2.2
theorem rp_wrong {n : Nat} {h h' : am_H} {r : Option Value} {what : Int32}  (hc_z : rn n am_m158 0 (lv_args 0 [.ref 164, .int what]) [] h r h') : (r = some (.int 0) ∧ h' = (am_up (am_up h 164 4 (.int what)) 164 5 (.int (rg_v h 164 10)))) := by
  have g0_z : am_get (lv_args 0 [.ref 164, .int what]) 0 = some (.ref 164) := rfl
  have g1_z : am_get (lv_args 0 [.ref 164, .int what]) 1 = some (.int what) := rfl
  replace hc_z := rn_aload_n (am_cur_of (i := (0, 1, .aload_n 0, (0, 0, 0), 0)) (by decide +kernel)) g0_z hc_z
  replace hc_z := rn_iload_n (am_cur_of (i := (1, 1, .iload_n 1, (0, 0, 0), 0)) (by decide +kernel)) g1_z hc_z
  replace hc_z := rn_put (am_cur_of (i := (2, 3, .putfield 145, (12, 4, 1388), 0)) (by decide +kernel)) (by decide +kernel) hc_z
  replace hc_z := rn_aload_n (am_cur_of (i := (5, 1, .aload_n 0, (0, 0, 0), 0)) (by decide +kernel)) g0_z hc_z
  replace hc_z := rn_aload_n (am_cur_of (i := (6, 1, .aload_n 0, (0, 0, 0), 0)) (by decide +kernel)) g0_z hc_z
  replace hc_z := rn_getI (v := rg_v h 164 10) (am_cur_of (i := (7, 3, .getfield 148, (12, 10, 1394), 0)) (by decide +kernel)) (by decide +kernel) (show rg_v (am_up h 164 4 (.int what)) 164 10 = rg_v h 164 10 from rfl) hc_z
  replace hc_z := rn_put (am_cur_of (i := (10, 3, .putfield 16, (12, 5, 1389), 0)) (by decide +kernel)) (by decide +kernel) hc_z
  replace hc_z := rn_iconst (w := 0) (am_cur_of (i := (13, 1, .iconst 0, (0, 0, 0), 0)) (by decide +kernel)) (by decide) hc_z
  replace hc_z := rn_iret (am_cur_of (i := (14, 1, .ireturn, (0, 0, 0), 0)) (by decide +kernel)) hc_z
  obtain ⟨e1_z, e2_z⟩ := hc_z
  exact ⟨e1_z, e2_z⟩
theorem rp_isMark {n : Nat} {h h' : am_H} {r : Option Value} {c : Int32}  (hc_z : rn n am_m45 0 (lv_args 0 [.ref 44, .int c]) [] h r h') : ((¬ (rg_v h 44 10) = (5 : Int32) ∧ ¬ (rg_v h 44 10).toInt = (5 : Int32).toInt) ∧ r = some (.int 0) ∧ h' = h) ∨ (((rg_v h 44 10) = (5 : Int32) ∧ (rg_v h 44 10).toInt = (5 : Int32).toInt) ∧ (¬ (rg_v h 44 11) = c ∧ ¬ (rg_v h 44 11).toInt = c.toInt) ∧ r = some (.int 0) ∧ h' = h) ∨ (((rg_v h 44 10) = (5 : Int32) ∧ (rg_v h 44 10).toInt = (5 : Int32).toInt) ∧ ((rg_v h 44 11) = c ∧ (rg_v h 44 11).toInt = c.toInt) ∧ r = some (.int 1) ∧ h' = h) := by
  have g0_z : am_get (lv_args 0 [.ref 44, .int c]) 0 = some (.ref 44) := rfl
  have g1_z : am_get (lv_args 0 [.ref 44, .int c]) 1 = some (.int c) := rfl
  replace hc_z := rn_aload_n (am_cur_of (i := (0, 1, .aload_n 0, (0, 0, 0), 0)) (by decide +kernel)) g0_z hc_z
  replace hc_z := rn_getI (v := rg_v h 44 10) (am_cur_of (i := (1, 3, .getfield 60, (4, 10, 419), 0)) (by decide +kernel)) (by decide +kernel) rfl hc_z
  replace hc_z := rn_iconst (w := 5) (am_cur_of (i := (4, 1, .iconst 5, (0, 0, 0), 0)) (by decide +kernel)) (by decide) hc_z
  replace hc_z := rn_cmp (am_cur_of (i := (5, 3, .if_icmp .ne 15, (10, 0, 0), 0)) (by decide +kernel)) hc_z
  rcases hc_z with ⟨b3_z, hc_z⟩ | ⟨b3_z, hc_z⟩
  · replace b3_z : ¬ (rg_v h 44 10) = (5 : Int32) ∧ ¬ (rg_v h 44 10).toInt = (5 : Int32).toInt := b3_z
    replace hc_z := rn_iconst (w := 0) (am_cur_of (i := (20, 1, .iconst 0, (0, 0, 0), 0)) (by decide +kernel)) (by decide) hc_z
    replace hc_z := rn_iret (am_cur_of (i := (21, 1, .ireturn, (0, 0, 0), 0)) (by decide +kernel)) hc_z
    obtain ⟨e4_z, e5_z⟩ := hc_z
    exact Or.inl ⟨b3_z, e4_z, e5_z⟩
  · replace b3_z : (rg_v h 44 10) = (5 : Int32) ∧ (rg_v h 44 10).toInt = (5 : Int32).toInt := b3_z
    replace hc_z := rn_aload_n (am_cur_of (i := (8, 1, .aload_n 0, (0, 0, 0), 0)) (by decide +kernel)) g0_z hc_z
    replace hc_z := rn_getI (v := rg_v h 44 11) (am_cur_of (i := (9, 3, .getfield 91, (4, 11, 420), 0)) (by decide +kernel)) (by decide +kernel) rfl hc_z
    replace hc_z := rn_iload_n (am_cur_of (i := (12, 1, .iload_n 1, (0, 0, 0), 0)) (by decide +kernel)) g1_z hc_z
    replace hc_z := rn_cmp (am_cur_of (i := (13, 3, .if_icmp .ne 7, (10, 0, 0), 0)) (by decide +kernel)) hc_z
    rcases hc_z with ⟨b6_z, hc_z⟩ | ⟨b6_z, hc_z⟩
    · replace b6_z : ¬ (rg_v h 44 11) = c ∧ ¬ (rg_v h 44 11).toInt = c.toInt := b6_z
      replace hc_z := rn_iconst (w := 0) (am_cur_of (i := (20, 1, .iconst 0, (0, 0, 0), 0)) (by decide +kernel)) (by decide) hc_z
      replace hc_z := rn_iret (am_cur_of (i := (21, 1, .ireturn, (0, 0, 0), 0)) (by decide +kernel)) hc_z
      obtain ⟨e7_z, e8_z⟩ := hc_z
      exact Or.inr (Or.inl ⟨b3_z, b6_z, e7_z, e8_z⟩)
    · replace b6_z : (rg_v h 44 11) = c ∧ (rg_v h 44 11).toInt = c.toInt := b6_z
      replace hc_z := rn_iconst (w := 1) (am_cur_of (i := (16, 1, .iconst 1, (0, 0, 0), 0)) (by decide +kernel)) (by decide) hc_z
      replace hc_z := rn_goto (am_cur_of (i := (17, 3, .goto 4, (11, 0, 0), 0)) (by decide +kernel)) hc_z
      replace hc_z := rn_iret (am_cur_of (i := (21, 1, .ireturn, (0, 0, 0), 0)) (by decide +kernel)) hc_z
      obtain ⟨e9_z, e10_z⟩ := hc_z
      exact Or.inr (Or.inr (⟨b3_z, b6_z, e9_z, e10_z⟩))
theorem rp_isSign {n : Nat} {h h' : am_H} {r : Option Value} {c : Int32}  (hc_z : rn n am_m171 0 (lv_args 0 [.ref 164, .int c]) [] h r h') : ((¬ (rg_v h 164 8) = (4 : Int32) ∧ ¬ (rg_v h 164 8).toInt = (4 : Int32).toInt) ∧ r = some (.int 0) ∧ h' = h) ∨ (((rg_v h 164 8) = (4 : Int32) ∧ (rg_v h 164 8).toInt = (4 : Int32).toInt) ∧ (¬ (rg_v h 164 9) = c ∧ ¬ (rg_v h 164 9).toInt = c.toInt) ∧ r = some (.int 0) ∧ h' = h) ∨ (((rg_v h 164 8) = (4 : Int32) ∧ (rg_v h 164 8).toInt = (4 : Int32).toInt) ∧ ((rg_v h 164 9) = c ∧ (rg_v h 164 9).toInt = c.toInt) ∧ r = some (.int 1) ∧ h' = h) := by
  have g0_z : am_get (lv_args 0 [.ref 164, .int c]) 0 = some (.ref 164) := rfl
  have g1_z : am_get (lv_args 0 [.ref 164, .int c]) 1 = some (.int c) := rfl
  replace hc_z := rn_aload_n (am_cur_of (i := (0, 1, .aload_n 0, (0, 0, 0), 0)) (by decide +kernel)) g0_z hc_z
  replace hc_z := rn_getI (v := rg_v h 164 8) (am_cur_of (i := (1, 3, .getfield 157, (12, 8, 1392), 0)) (by decide +kernel)) (by decide +kernel) rfl hc_z
  replace hc_z := rn_iconst (w := 4) (am_cur_of (i := (4, 1, .iconst 4, (0, 0, 0), 0)) (by decide +kernel)) (by decide) hc_z
  replace hc_z := rn_cmp (am_cur_of (i := (5, 3, .if_icmp .ne 15, (10, 0, 0), 0)) (by decide +kernel)) hc_z
  rcases hc_z with ⟨b11_z, hc_z⟩ | ⟨b11_z, hc_z⟩
  · replace b11_z : ¬ (rg_v h 164 8) = (4 : Int32) ∧ ¬ (rg_v h 164 8).toInt = (4 : Int32).toInt := b11_z
    replace hc_z := rn_iconst (w := 0) (am_cur_of (i := (20, 1, .iconst 0, (0, 0, 0), 0)) (by decide +kernel)) (by decide) hc_z
    replace hc_z := rn_iret (am_cur_of (i := (21, 1, .ireturn, (0, 0, 0), 0)) (by decide +kernel)) hc_z
    obtain ⟨e12_z, e13_z⟩ := hc_z
    exact Or.inl ⟨b11_z, e12_z, e13_z⟩
  · replace b11_z : (rg_v h 164 8) = (4 : Int32) ∧ (rg_v h 164 8).toInt = (4 : Int32).toInt := b11_z
    replace hc_z := rn_aload_n (am_cur_of (i := (8, 1, .aload_n 0, (0, 0, 0), 0)) (by decide +kernel)) g0_z hc_z
    replace hc_z := rn_getI (v := rg_v h 164 9) (am_cur_of (i := (9, 3, .getfield 168, (12, 9, 1393), 0)) (by decide +kernel)) (by decide +kernel) rfl hc_z
    replace hc_z := rn_iload_n (am_cur_of (i := (12, 1, .iload_n 1, (0, 0, 0), 0)) (by decide +kernel)) g1_z hc_z
    replace hc_z := rn_cmp (am_cur_of (i := (13, 3, .if_icmp .ne 7, (10, 0, 0), 0)) (by decide +kernel)) hc_z
    rcases hc_z with ⟨b14_z, hc_z⟩ | ⟨b14_z, hc_z⟩
    · replace b14_z : ¬ (rg_v h 164 9) = c ∧ ¬ (rg_v h 164 9).toInt = c.toInt := b14_z
      replace hc_z := rn_iconst (w := 0) (am_cur_of (i := (20, 1, .iconst 0, (0, 0, 0), 0)) (by decide +kernel)) (by decide) hc_z
      replace hc_z := rn_iret (am_cur_of (i := (21, 1, .ireturn, (0, 0, 0), 0)) (by decide +kernel)) hc_z
      obtain ⟨e15_z, e16_z⟩ := hc_z
      exact Or.inr (Or.inl ⟨b11_z, b14_z, e15_z, e16_z⟩)
    · replace b14_z : (rg_v h 164 9) = c ∧ (rg_v h 164 9).toInt = c.toInt := b14_z
      replace hc_z := rn_iconst (w := 1) (am_cur_of (i := (16, 1, .iconst 1, (0, 0, 0), 0)) (by decide +kernel)) (by decide) hc_z
      replace hc_z := rn_goto (am_cur_of (i := (17, 3, .goto 4, (11, 0, 0), 0)) (by decide +kernel)) hc_z
      replace hc_z := rn_iret (am_cur_of (i := (21, 1, .ireturn, (0, 0, 0), 0)) (by decide +kernel)) hc_z
      obtain ⟨e17_z, e18_z⟩ := hc_z
      exact Or.inr (Or.inr (⟨b11_z, b14_z, e17_z, e18_z⟩))
theorem rp_isKey {n : Nat} {h h' : am_H} {r : Option Value} {c : Int32}  (hc_z : rn n am_m174 0 (lv_args 0 [.ref 164, .int c]) [] h r h') : ((¬ (rg_v h 164 8) = (1 : Int32) ∧ ¬ (rg_v h 164 8).toInt = (1 : Int32).toInt) ∧ r = some (.int 0) ∧ h' = h) ∨ (((rg_v h 164 8) = (1 : Int32) ∧ (rg_v h 164 8).toInt = (1 : Int32).toInt) ∧ (¬ (rg_v h 164 9) = c ∧ ¬ (rg_v h 164 9).toInt = c.toInt) ∧ r = some (.int 0) ∧ h' = h) ∨ (((rg_v h 164 8) = (1 : Int32) ∧ (rg_v h 164 8).toInt = (1 : Int32).toInt) ∧ ((rg_v h 164 9) = c ∧ (rg_v h 164 9).toInt = c.toInt) ∧ r = some (.int 1) ∧ h' = h) := by
  have g0_z : am_get (lv_args 0 [.ref 164, .int c]) 0 = some (.ref 164) := rfl
  have g1_z : am_get (lv_args 0 [.ref 164, .int c]) 1 = some (.int c) := rfl
  replace hc_z := rn_aload_n (am_cur_of (i := (0, 1, .aload_n 0, (0, 0, 0), 0)) (by decide +kernel)) g0_z hc_z
  replace hc_z := rn_getI (v := rg_v h 164 8) (am_cur_of (i := (1, 3, .getfield 157, (12, 8, 1392), 0)) (by decide +kernel)) (by decide +kernel) rfl hc_z
  replace hc_z := rn_iconst (w := 1) (am_cur_of (i := (4, 1, .iconst 1, (0, 0, 0), 0)) (by decide +kernel)) (by decide) hc_z
  replace hc_z := rn_cmp (am_cur_of (i := (5, 3, .if_icmp .ne 15, (10, 0, 0), 0)) (by decide +kernel)) hc_z
  rcases hc_z with ⟨b19_z, hc_z⟩ | ⟨b19_z, hc_z⟩
  · replace b19_z : ¬ (rg_v h 164 8) = (1 : Int32) ∧ ¬ (rg_v h 164 8).toInt = (1 : Int32).toInt := b19_z
    replace hc_z := rn_iconst (w := 0) (am_cur_of (i := (20, 1, .iconst 0, (0, 0, 0), 0)) (by decide +kernel)) (by decide) hc_z
    replace hc_z := rn_iret (am_cur_of (i := (21, 1, .ireturn, (0, 0, 0), 0)) (by decide +kernel)) hc_z
    obtain ⟨e20_z, e21_z⟩ := hc_z
    exact Or.inl ⟨b19_z, e20_z, e21_z⟩
  · replace b19_z : (rg_v h 164 8) = (1 : Int32) ∧ (rg_v h 164 8).toInt = (1 : Int32).toInt := b19_z
    replace hc_z := rn_aload_n (am_cur_of (i := (8, 1, .aload_n 0, (0, 0, 0), 0)) (by decide +kernel)) g0_z hc_z
    replace hc_z := rn_getI (v := rg_v h 164 9) (am_cur_of (i := (9, 3, .getfield 168, (12, 9, 1393), 0)) (by decide +kernel)) (by decide +kernel) rfl hc_z
    replace hc_z := rn_iload_n (am_cur_of (i := (12, 1, .iload_n 1, (0, 0, 0), 0)) (by decide +kernel)) g1_z hc_z
    replace hc_z := rn_cmp (am_cur_of (i := (13, 3, .if_icmp .ne 7, (10, 0, 0), 0)) (by decide +kernel)) hc_z
    rcases hc_z with ⟨b22_z, hc_z⟩ | ⟨b22_z, hc_z⟩
    · replace b22_z : ¬ (rg_v h 164 9) = c ∧ ¬ (rg_v h 164 9).toInt = c.toInt := b22_z
      replace hc_z := rn_iconst (w := 0) (am_cur_of (i := (20, 1, .iconst 0, (0, 0, 0), 0)) (by decide +kernel)) (by decide) hc_z
      replace hc_z := rn_iret (am_cur_of (i := (21, 1, .ireturn, (0, 0, 0), 0)) (by decide +kernel)) hc_z
      obtain ⟨e23_z, e24_z⟩ := hc_z
      exact Or.inr (Or.inl ⟨b19_z, b22_z, e23_z, e24_z⟩)
    · replace b22_z : (rg_v h 164 9) = c ∧ (rg_v h 164 9).toInt = c.toInt := b22_z
      replace hc_z := rn_iconst (w := 1) (am_cur_of (i := (16, 1, .iconst 1, (0, 0, 0), 0)) (by decide +kernel)) (by decide) hc_z
      replace hc_z := rn_goto (am_cur_of (i := (17, 3, .goto 4, (11, 0, 0), 0)) (by decide +kernel)) hc_z
      replace hc_z := rn_iret (am_cur_of (i := (21, 1, .ireturn, (0, 0, 0), 0)) (by decide +kernel)) hc_z
      obtain ⟨e25_z, e26_z⟩ := hc_z
      exact Or.inr (Or.inr (⟨b19_z, b22_z, e25_z, e26_z⟩))
theorem rp_isIn {n : Nat} {h h' : am_H} {r : Option Value} {hi_z : Int32} {lo : Int32} {x : Int32}  (hc_z : rn n am_m162 0 (lv_args 0 [.int x, .int lo, .int hi_z]) [] h r h') : ((x.toInt < lo.toInt) ∧ r = some (.int 0) ∧ h' = h) ∨ ((lo.toInt ≤ x.toInt) ∧ (hi_z.toInt < x.toInt) ∧ r = some (.int 0) ∧ h' = h) ∨ ((lo.toInt ≤ x.toInt) ∧ (x.toInt ≤ hi_z.toInt) ∧ r = some (.int 1) ∧ h' = h) := by
  have g0_z : am_get (lv_args 0 [.int x, .int lo, .int hi_z]) 0 = some (.int x) := rfl
  have g1_z : am_get (lv_args 0 [.int x, .int lo, .int hi_z]) 1 = some (.int lo) := rfl
  have g2_z : am_get (lv_args 0 [.int x, .int lo, .int hi_z]) 2 = some (.int hi_z) := rfl
  replace hc_z := rn_iload_n (am_cur_of (i := (0, 1, .iload_n 0, (0, 0, 0), 0)) (by decide +kernel)) g0_z hc_z
  replace hc_z := rn_iload_n (am_cur_of (i := (1, 1, .iload_n 1, (0, 0, 0), 0)) (by decide +kernel)) g1_z hc_z
  replace hc_z := rn_cmp (am_cur_of (i := (2, 3, .if_icmp .lt 12, (8, 0, 0), 0)) (by decide +kernel)) hc_z
  rcases hc_z with ⟨b27_z, hc_z⟩ | ⟨b27_z, hc_z⟩
  · replace b27_z : x.toInt < lo.toInt := b27_z
    replace hc_z := rn_iconst (w := 0) (am_cur_of (i := (14, 1, .iconst 0, (0, 0, 0), 0)) (by decide +kernel)) (by decide) hc_z
    replace hc_z := rn_iret (am_cur_of (i := (15, 1, .ireturn, (0, 0, 0), 0)) (by decide +kernel)) hc_z
    obtain ⟨e28_z, e29_z⟩ := hc_z
    exact Or.inl ⟨b27_z, e28_z, e29_z⟩
  · replace b27_z : lo.toInt ≤ x.toInt := b27_z
    replace hc_z := rn_iload_n (am_cur_of (i := (5, 1, .iload_n 0, (0, 0, 0), 0)) (by decide +kernel)) g0_z hc_z
    replace hc_z := rn_iload_n (am_cur_of (i := (6, 1, .iload_n 2, (0, 0, 0), 0)) (by decide +kernel)) g2_z hc_z
    replace hc_z := rn_cmp (am_cur_of (i := (7, 3, .if_icmp .gt 7, (8, 0, 0), 0)) (by decide +kernel)) hc_z
    rcases hc_z with ⟨b30_z, hc_z⟩ | ⟨b30_z, hc_z⟩
    · replace b30_z : hi_z.toInt < x.toInt := b30_z
      replace hc_z := rn_iconst (w := 0) (am_cur_of (i := (14, 1, .iconst 0, (0, 0, 0), 0)) (by decide +kernel)) (by decide) hc_z
      replace hc_z := rn_iret (am_cur_of (i := (15, 1, .ireturn, (0, 0, 0), 0)) (by decide +kernel)) hc_z
      obtain ⟨e31_z, e32_z⟩ := hc_z
      exact Or.inr (Or.inl ⟨b27_z, b30_z, e31_z, e32_z⟩)
    · replace b30_z : x.toInt ≤ hi_z.toInt := b30_z
      replace hc_z := rn_iconst (w := 1) (am_cur_of (i := (10, 1, .iconst 1, (0, 0, 0), 0)) (by decide +kernel)) (by decide) hc_z
      replace hc_z := rn_goto (am_cur_of (i := (11, 3, .goto 4, (9, 0, 0), 0)) (by decide +kernel)) hc_z
      replace hc_z := rn_iret (am_cur_of (i := (15, 1, .ireturn, (0, 0, 0), 0)) (by decide +kernel)) hc_z
      obtain ⟨e33_z, e34_z⟩ := hc_z
      exact Or.inr (Or.inr (⟨b27_z, b30_z, e33_z, e34_z⟩))
theorem rp_fail {n : Nat} {h h' : am_H} {r : Option Value} {what : Int32} (hf_z : rg_v h 44 1 = 0) (hc_z : rn n am_m29 0 (lv_args 0 [.ref 44, .int what]) [] h r h') : r = none ∧ h' = (am_up (am_up h 44 1 (.int what)) 44 2 (.int (rg_v h 44 9))) := by
  have g0_z : am_get (lv_args 0 [.ref 44, .int what]) 0 = some (.ref 44) := rfl
  have g1_z : am_get (lv_args 0 [.ref 44, .int what]) 1 = some (.int what) := rfl
  replace hc_z := rn_aload_n (am_cur_of (i := (0, 1, .aload_n 0, (0, 0, 0), 0)) (by decide +kernel)) g0_z hc_z
  replace hc_z := rn_getI (v := 0) (am_cur_of (i := (1, 3, .getfield 51, (4, 1, 408), 0)) (by decide +kernel)) (by decide +kernel) hf_z hc_z
  replace hc_z := rn_ifF (am_cur_of (i := (4, 3, .ifCond .ne 16, (10, 0, 0), 0)) (by decide +kernel)) (by decide) hc_z
  replace hc_z := rn_aload_n (am_cur_of (i := (7, 1, .aload_n 0, (0, 0, 0), 0)) (by decide +kernel)) g0_z hc_z
  replace hc_z := rn_iload_n (am_cur_of (i := (8, 1, .iload_n 1, (0, 0, 0), 0)) (by decide +kernel)) g1_z hc_z
  replace hc_z := rn_put (am_cur_of (i := (9, 3, .putfield 51, (4, 1, 408), 0)) (by decide +kernel)) (by decide +kernel) hc_z
  replace hc_z := rn_aload_n (am_cur_of (i := (12, 1, .aload_n 0, (0, 0, 0), 0)) (by decide +kernel)) g0_z hc_z
  replace hc_z := rn_aload_n (am_cur_of (i := (13, 1, .aload_n 0, (0, 0, 0), 0)) (by decide +kernel)) g0_z hc_z
  replace hc_z := rn_getI (v := rg_v h 44 9) (am_cur_of (i := (14, 3, .getfield 72, (4, 9, 418), 0)) (by decide +kernel)) (by decide +kernel) (show rg_v (am_up h 44 1 (.int what)) 44 9 = rg_v h 44 9 from rfl) hc_z
  replace hc_z := rn_put (am_cur_of (i := (17, 3, .putfield 9, (4, 2, 410), 0)) (by decide +kernel)) (by decide +kernel) hc_z
  replace hc_z := rn_vret (am_cur_of (i := (20, 1, .return_, (0, 0, 0), 0)) (by decide +kernel)) hc_z
  obtain ⟨e35_z, e36_z⟩ := hc_z
  exact ⟨e35_z, e36_z⟩
/-- which cells stay: all but the class's reader; all but the model's token and its once-told -/
def rx_C (h h' : am_H) : Prop := ∀ o k, ¬ (o = 44 ∧ ¬ k = 2) → h' o k = h o k
def rx_M (g g' : am_H) : Prop := ∀ o k, ¬ (o = 164 ∧ 6 ≤ k ∧ k ≤ 11) → ¬ o = 167 → g' o k = g o k
theorem rx_C_r {h : am_H} : rx_C h h := fun _ _ _ => rfl
theorem rx_M_r {h : am_H} : rx_M h h := fun _ _ _ _ => rfl
theorem rx_C_t {h h' h'' : am_H} (a : rx_C h h') (b : rx_C h' h'') : rx_C h h'' := fun o k e => (b o k e).trans (a o k e)
theorem rx_M_t {h h' h'' : am_H} (a : rx_M h h') (b : rx_M h' h'') : rx_M h h'' := fun o k e f => (b o k e f).trans (a o k e f)
theorem rx_C_f {h h' : am_H} (a : ab_Fr rt_mC h h') : rx_C h h' := by
  intro o k e
  refine a o k ?_
  cases q : ab_in rt_mC o k with
  | false => rfl
  | true =>
    exfalso
    apply e
    obtain ⟨w, hw_z, hb_z⟩ := List.any_eq_true.mp q
    rw [Bool.and_eq_true, Bool.or_eq_true] at hb_z
    have e1_z := Nat.eq_of_beq_eq_true hb_z.1
    have hm_z : w.1 = 44 ∧ 9 ≤ w.2 := (by decide : ∀ w ∈ rt_mC, w.1 = 44 ∧ 9 ≤ w.2) w hw_z
    rcases hb_z.2 with h0_z | h0_z
    · have := Nat.eq_of_beq_eq_true h0_z
      omega
    · have := Nat.eq_of_beq_eq_true h0_z
      omega
theorem rx_M_f {h h' : am_H} (a : ab_Fr rt_mM h h') : rx_M h h' := by
  intro o k e f
  refine a o k ?_
  cases q : ab_in rt_mM o k with
  | false => rfl
  | true =>
    exfalso
    apply e
    obtain ⟨w, hw_z, hb_z⟩ := List.any_eq_true.mp q
    rw [Bool.and_eq_true, Bool.or_eq_true] at hb_z
    have e1_z := Nat.eq_of_beq_eq_true hb_z.1
    have hm_z : w.1 = 164 ∧ 8 ≤ w.2 ∧ w.2 ≤ 11 := (by decide : ∀ w ∈ rt_mM, w.1 = 164 ∧ 8 ≤ w.2 ∧ w.2 ≤ 11) w hw_z
    rcases hb_z.2 with h0_z | h0_z
    · have := Nat.eq_of_beq_eq_true h0_z
      omega
    · have := Nat.eq_of_beq_eq_true h0_z
      omega
theorem rx_C_u {h h' : am_H} {k : Nat} {v : Value} (hk_z : ¬ k = 2) (a : rx_C h h') : rx_C h (am_up h' 44 k v) := by
  intro o j e
  refine Eq.trans ?_ (a o j e)
  by_cases ho : o = 44
  · subst ho
    exact am_up_same _ _ _ _ _ (fun q => e ⟨rfl, by omega⟩)
  · rw [am_up_other _ _ _ _ _ ho]
theorem rx_M_u {h h' : am_H} {k : Nat} {v : Value} (hk_z : 6 ≤ k ∧ k ≤ 11) (a : rx_M h h') : rx_M h (am_up h' 164 k v) := by
  intro o j e f
  refine Eq.trans ?_ (a o j e f)
  by_cases ho : o = 164
  · subst ho
    exact am_up_same _ _ _ _ _ (fun q => e ⟨rfl, by omega, by omega⟩)
  · rw [am_up_other _ _ _ _ _ ho]
theorem rx_M_o {h h' : am_H} {k : Nat} {v : Value} (a : rx_M h h') : rx_M h (am_up h' 167 k v) := fun o j e f => (by rw [am_up_other _ _ _ _ _ f] : am_up h' 167 k v o j = h' o j).trans (a o j e f)
theorem rx_v {h h' : am_H} (a : rx_C h h') {o k : Nat} (e : ¬ o = 44) : rg_v h' o k = rg_v h o k := by unfold rg_v; rw [a o k (fun q => e q.1)]
theorem rx_w {h h' : am_H} (a : rx_M h h') {o k : Nat} (e : ¬ (o = 164 ∧ 4 ≤ k ∧ k ≤ 11)) (f : ¬ o = 167) : rg_v h' o k = rg_v h o k := by unfold rg_v; rw [a o k (fun q => e ⟨q.1, by omega, q.2.2⟩) f]
theorem rx_v2 {h h' : am_H} (a : rx_C h h') : rg_v h' 44 2 = rg_v h 44 2 := by unfold rg_v; rw [a 44 2 (fun q => q.2 rfl)]
theorem rx_w4 {h h' : am_H} (a : rx_M h h') : rg_v h' 164 4 = rg_v h 164 4 := by unfold rg_v; rw [a 164 4 (by omega) (by omega)]
theorem rx_w5 {h h' : am_H} (a : rx_M h h') : rg_v h' 164 5 = rg_v h 164 5 := by unfold rg_v; rw [a 164 5 (by omega) (by omega)]
/-- both readers stand behind the same token; no fault -/
def rq (T : Nat → Int32) (S x p : Int32) (d : Nat) (h g : am_H) : Prop := rt_C T S x h ∧ rt_M T S x g ∧ h 44 6 = .ref d ∧ rg_v h 44 1 = 0 ∧ rg_v h 44 9 = p ∧ rg_v g 164 10 = p ∧ 0 ≤ p.toInt ∧ p.toInt ≤ x.toInt ∧ (rg_v h 44 10 = 0 ∨ p.toInt < x.toInt) ∧ tk (rg_v h 44 10) (rg_v h 44 11) (rg_v g 164 8) (rg_v g 164 9)
/-- the same without the token -/
def rq0_z (T : Nat → Int32) (S x : Int32) (d : Nat) (h g : am_H) : Prop := rt_C T S x h ∧ rt_M T S x g ∧ h 44 6 = .ref d ∧ rg_v h 44 1 = 0
theorem rq_0 {T : Nat → Int32} {S x p : Int32} {d : Nat} {h g : am_H} (R : rq T S x p d h g) : rq0_z T S x d h g := ⟨R.1, R.2.1, R.2.2.1, R.2.2.2.1⟩
theorem rt_fwd {T : Nat → Int32} {S x p y kd vl : Int32} (x0_z : 0 ≤ x.toInt) (x1_z : x.toInt ≤ S.toInt) (y0_z : 0 ≤ y.toInt) (s7_z : S.toInt ≤ 700) (hC : rt_tC T S x p y kd vl) : x.toInt ≤ p.toInt ∧ p.toInt ≤ y.toInt ∧ (kd = 0 ∨ p.toInt < y.toInt) := by
  obtain ⟨c1_z, c2_z, c3_z, c4_z⟩ := hC
  have cx_z := rt_cl x0_z
  have cp_z := rt_cl c2_z
  have cS_z := rt_cl (x := S) (by omega)
  have cy_z := rt_cl y0_z
  have h1_z := (rd_end_le (f := rd_ws) (T := T) (s := S.toNatClampNeg) (p := x.toNatClampNeg) (by omega)).1
  rcases c4_z with ⟨a1_z, a2_z, a3_z⟩ | ⟨a1_z, a2_z, a3_z, a4_z⟩ | ⟨a1_z, a2_z, a3_z, a4_z, a5_z, a6_z⟩ | ⟨a1_z, a2_z, a3_z, a4_z, a5_z, a6_z⟩
  · subst a2_z
    exact ⟨by omega, by omega, Or.inl a3_z⟩
  · rw [rd_end_on (by omega) a2_z] at a3_z
    have h2_z := (rd_end_le (f := rd_sm) (T := T) (s := S.toNatClampNeg) (p := p.toNatClampNeg + 1) (by omega)).1
    exact ⟨by omega, by omega, Or.inr (by omega)⟩
  · rw [rd_end_on (by omega) a3_z] at a4_z
    have h2_z := (rd_end_le (f := rd_dg) (T := T) (s := S.toNatClampNeg) (p := p.toNatClampNeg + 1) (by omega)).1
    exact ⟨by omega, by omega, Or.inr (by omega)⟩
  · have hs_z : ∀ c d, (rt_sC c d).2.2 = 0 ∨ (rt_sC c d).2.2 = 1 := by
      intro c d
      unfold rt_sC
      repeat' split
      all_goals first | exact Or.inl rfl | exact Or.inr rfl
    have e1_z := rt_c1 c2_z (by omega)
    have e2_z := rt_c1 (x := p + 1) (by omega) (by omega)
    rcases hs_z (T p.toNatClampNeg) (rt_nx T S.toNatClampNeg (p.toNatClampNeg + 1)) with q | q
    · rw [q, Int32.add_zero] at a4_z
      subst a4_z
      exact ⟨by omega, by omega, Or.inr (by omega)⟩
    · rw [q] at a4_z
      subst a4_z
      exact ⟨by omega, by omega, Or.inr (by omega)⟩
/-- a token more of both -/
theorem pr_tok {T : Nat → Int32} {S x : Int32} {d n n' : Nat} {h h' g g' : am_H} {r r' : Option Value} (R : rq0_z T S x d h g) (hc_z : rn n am_m19 0 (lv_args 0 [.ref 44]) [] h r h') (hm_z : rn n' am_m151 0 (lv_args 0 [.ref 164]) [] g r' g') : r = none ∧ r' = none ∧ ∃ x2_z p2_z, rq T S x2_z p2_z d h' g' ∧ x.toInt ≤ p2_z.toInt ∧ ab_Fr rt_mC h h' ∧ ab_Fr rt_mM g g' := by
  obtain ⟨R1, R2, R3, R4⟩ := R
  obtain ⟨c0_z, p, y, c1_z, c2_z, c3_z, c4_z⟩ := rt_advC R1 hc_z
  obtain ⟨m0_z, p', y', m1_z, m2_z, m3_z, m4_z⟩ := rt_tokM R2 hm_z
  obtain ⟨e1_z, e2_z, e3_z⟩ := rt_rel c1_z.2.2.2.1 m1_z.2.2.1 c4_z m4_z
  subst e1_z e2_z
  have f := rt_fwd R1.2.2.2.1 R1.2.2.2.2.1 c1_z.2.2.2.1 R1.2.2.2.2.2.1 c4_z
  exact ⟨c0_z, m0_z, _, _, ⟨c1_z, m1_z, (c2_z 44 6 (by decide)).trans R3, (rg_v_fr c2_z (by decide)).trans R4, c3_z, m3_z, c4_z.2.1, f.2.1, f.2.2, e3_z⟩, f.1, c2_z, m2_z⟩
theorem tk_4 {a b c d : Int32} (h : tk a b c d) (e : a = 4) : c = 3 ∧ 0 ≤ b.toInt ∧ 0 ≤ d.toInt ∧ (b = d ∨ (99999 < b.toInt ∧ 99999 < d.toInt)) := by
  rcases h with ⟨q, -⟩ | ⟨q, -⟩ | ⟨k, -, q, -⟩ | ⟨q, -⟩ | ⟨-, q⟩ | ⟨q, -⟩ | ⟨q, -⟩
  case inr.inr.inr.inr.inl => exact q
  all_goals exact absurd (q.symm.trans e) (by decide)
theorem tk_n4 {a b c d : Int32} (h : tk a b c d) (e : ¬ a = 4) : ¬ c = 3 := by
  intro e3_z
  rcases h with ⟨-, q⟩ | ⟨-, q⟩ | ⟨k, -, -, q, -⟩ | ⟨-, q, -⟩ | ⟨q, -⟩ | ⟨-, q, -⟩ | ⟨-, q⟩
  · exact absurd (q.symm.trans e3_z) (by decide)
  · rcases q with q | ⟨q, -⟩ <;> exact absurd (q.symm.trans e3_z) (by decide)
  · exact absurd (q.symm.trans e3_z) (by decide)
  · exact absurd (q.symm.trans e3_z) (by decide)
  · exact e q
  · exact absurd (q.symm.trans e3_z) (by decide)
  · rcases q with ⟨-, q, -⟩ | ⟨-, q, -⟩ | ⟨-, q, -⟩ | ⟨-, q, -⟩ | ⟨-, q, -⟩ | ⟨-, q, -⟩ | ⟨-, q, -⟩ | ⟨-, q, -⟩ | ⟨-, q, -⟩ | ⟨-, q, -⟩ | ⟨-, q, -⟩ | ⟨-, q, -⟩ | ⟨-, q, -⟩ <;> exact absurd (q.symm.trans e3_z) (by decide)
theorem tk_3 {a b c d : Int32} (h : tk a b c d) (e : a = 3) : c = 2 ∧ b = d := by
  rcases h with ⟨q, -⟩ | ⟨q, -⟩ | ⟨k, -, q, -⟩ | ⟨-, q⟩ | ⟨q, -⟩ | ⟨q, -⟩ | ⟨q, -⟩
  case inr.inr.inr.inl => exact q
  all_goals exact absurd (q.symm.trans e) (by decide)
theorem tk_n3 {a b c d : Int32} (h : tk a b c d) (e : ¬ a = 3) : ¬ c = 2 := by
  intro e3_z
  rcases h with ⟨-, q⟩ | ⟨-, q⟩ | ⟨k, -, -, q, -⟩ | ⟨q, -⟩ | ⟨-, q, -⟩ | ⟨-, q, -⟩ | ⟨-, q⟩
  · exact absurd (q.symm.trans e3_z) (by decide)
  · rcases q with q | ⟨q, -⟩ <;> exact absurd (q.symm.trans e3_z) (by decide)
  · exact absurd (q.symm.trans e3_z) (by decide)
  · exact e q
  · exact absurd (q.symm.trans e3_z) (by decide)
  · exact absurd (q.symm.trans e3_z) (by decide)
  · rcases q with ⟨-, q, -⟩ | ⟨-, q, -⟩ | ⟨-, q, -⟩ | ⟨-, q, -⟩ | ⟨-, q, -⟩ | ⟨-, q, -⟩ | ⟨-, q, -⟩ | ⟨-, q, -⟩ | ⟨-, q, -⟩ | ⟨-, q, -⟩ | ⟨-, q, -⟩ | ⟨-, q, -⟩ | ⟨-, q, -⟩ <;> exact absurd (q.symm.trans e3_z) (by decide)

def rp_F (what : Int32) (h : am_H) : am_H := am_up (am_up h 44 1 (.int what)) 44 2 (.int (rg_v h 44 9))
theorem rp_numC {n : Nat} {h h' : am_H} {r : Option Value} {lo hi_z a b : Int32} (hf_z : rg_v h 44 1 = 0) (ea : rg_v h 44 10 = a) (eb : rg_v h 44 11 = b) (hc_z : rn n am_m30 0 (lv_args 0 [.ref 44, .int lo, .int hi_z]) [] h r h') : (¬ a = 4 ∧ h' = rp_F 1 h) ∨ (a = 4 ∧ (b.toInt < lo.toInt ∨ hi_z.toInt < b.toInt) ∧ h' = rp_F 2 h) ∨ (a = 4 ∧ lo.toInt ≤ b.toInt ∧ b.toInt ≤ hi_z.toInt ∧ r = some (.int b) ∧ ∃ n2_z r2_z, rn n2_z am_m19 0 (lv_args 0 [.ref 44]) [] h r2_z h') := by
  have z4_z : (4 : Int32).toInt = 4 := by decide
  have g0_z : am_get (lv_args 0 [.ref 44, .int lo, .int hi_z]) 0 = some (.ref 44) := rfl
  have g1_z : am_get (lv_args 0 [.ref 44, .int lo, .int hi_z]) 1 = some (.int lo) := rfl
  have g2_z : am_get (lv_args 0 [.ref 44, .int lo, .int hi_z]) 2 = some (.int hi_z) := rfl
  replace hc_z := rn_aload_n (am_cur_of (i := (0, 1, .aload_n 0, (0, 0, 0), 0)) (by decide +kernel)) g0_z hc_z
  replace hc_z := rn_getI (v := 0) (am_cur_of (i := (1, 3, .getfield 51, (4, 1, 408), 0)) (by decide +kernel)) (by decide +kernel) hf_z hc_z
  replace hc_z := rn_ifT (am_cur_of (i := (4, 3, .ifCond .eq 5, (5, 0, 0), 0)) (by decide +kernel)) (by decide) hc_z
  replace hc_z := rn_aload_n (am_cur_of (i := (9, 1, .aload_n 0, (0, 0, 0), 0)) (by decide +kernel)) g0_z hc_z
  replace hc_z := rn_getI (v := b) (am_cur_of (i := (10, 3, .getfield 91, (4, 11, 420), 0)) (by decide +kernel)) (by decide +kernel) eb hc_z
  replace hc_z := rn_istore_n (am_cur_of (i := (13, 1, .istore_n 3, (0, 0, 0), 0)) (by decide +kernel)) hc_z
  obtain ⟨_, s37_z, s38_z, g3_z, hc_z⟩ := hc_z
  replace g0_z := s37_z 0 _ (by decide) rfl g0_z
  replace g1_z := s37_z 1 _ (by decide) rfl g1_z
  replace g2_z := s37_z 2 _ (by decide) rfl g2_z
  clear s37_z s38_z
  replace hc_z := rn_aload_n (am_cur_of (i := (14, 1, .aload_n 0, (0, 0, 0), 0)) (by decide +kernel)) g0_z hc_z
  replace hc_z := rn_getI (v := a) (am_cur_of (i := (15, 3, .getfield 60, (4, 10, 419), 0)) (by decide +kernel)) (by decide +kernel) ea hc_z
  replace hc_z := rn_iconst (w := 4) (am_cur_of (i := (18, 1, .iconst 4, (0, 0, 0), 0)) (by decide +kernel)) (by decide) hc_z
  replace hc_z := rn_cmp (am_cur_of (i := (19, 3, .if_icmp .eq 11, (16, 0, 0), 0)) (by decide +kernel)) hc_z
  rcases hc_z with ⟨b39_z, hc_z⟩ | ⟨b39_z, hc_z⟩
  · replace b39_z : a = (4 : Int32) ∧ a.toInt = (4 : Int32).toInt := b39_z
    replace hc_z := rn_iload_n (am_cur_of (i := (30, 1, .iload_n 3, (0, 0, 0), 0)) (by decide +kernel)) g3_z hc_z
    replace hc_z := rn_iload_n (am_cur_of (i := (31, 1, .iload_n 1, (0, 0, 0), 0)) (by decide +kernel)) g1_z hc_z
    replace hc_z := rn_cmp (am_cur_of (i := (32, 3, .if_icmp .lt 8, (22, 0, 0), 0)) (by decide +kernel)) hc_z
    rcases hc_z with ⟨b40_z, hc_z⟩ | ⟨b40_z, hc_z⟩
    · replace b40_z : b.toInt < lo.toInt := b40_z
      replace hc_z := rn_aload_n (am_cur_of (i := (40, 1, .aload_n 0, (0, 0, 0), 0)) (by decide +kernel)) g0_z hc_z
      replace hc_z := rn_iconst (w := 2) (am_cur_of (i := (41, 1, .iconst 2, (0, 0, 0), 0)) (by decide +kernel)) (by decide) hc_z
      replace hc_z := rn_callV (M' := am_m29) (o := 44) (ar := [.int 2]) (rest := []) (L := lv_args 0 [.ref 44, .int 2]) (am_cur_of (i := (42, 3, .invokevirtual 108, (29, 769, 3), 0)) (by decide +kernel)) rfl rfl rfl rfl hc_z
      obtain ⟨r41_z, h42_z, q43_z, hc_z⟩ := hc_z
      obtain ⟨rfl, yq43_z⟩ := rp_fail hf_z q43_z
      subst yq43_z
      replace hc_z : rn _ _ _ _ [] _ _ _ := hc_z
      replace hc_z := rn_aload_n (am_cur_of (i := (45, 1, .aload_n 0, (0, 0, 0), 0)) (by decide +kernel)) g0_z hc_z
      replace hc_z := rn_getI (v := 2) (am_cur_of (i := (46, 3, .getfield 51, (4, 1, 408), 0)) (by decide +kernel)) (by decide +kernel) (show rg_v (am_up (am_up h 44 1 (.int 2)) 44 2 (.int (rg_v h 44 9))) 44 1 = 2 from rfl) hc_z
      replace hc_z := rn_ifF (am_cur_of (i := (49, 3, .ifCond .eq 5, (30, 0, 0), 0)) (by decide +kernel)) (by decide) hc_z
      replace hc_z := rn_iload_n (am_cur_of (i := (52, 1, .iload_n 1, (0, 0, 0), 0)) (by decide +kernel)) g1_z hc_z
      replace hc_z := rn_iret (am_cur_of (i := (53, 1, .ireturn, (0, 0, 0), 0)) (by decide +kernel)) hc_z
      obtain ⟨e44_z, e45_z⟩ := hc_z
      exact Or.inr (Or.inl ⟨b39_z.1, by omega, e45_z⟩)
    · replace b40_z : lo.toInt ≤ b.toInt := b40_z
      replace hc_z := rn_iload_n (am_cur_of (i := (35, 1, .iload_n 3, (0, 0, 0), 0)) (by decide +kernel)) g3_z hc_z
      replace hc_z := rn_iload_n (am_cur_of (i := (36, 1, .iload_n 2, (0, 0, 0), 0)) (by decide +kernel)) g2_z hc_z
      replace hc_z := rn_cmp (am_cur_of (i := (37, 3, .if_icmp .le 8, (25, 0, 0), 0)) (by decide +kernel)) hc_z
      rcases hc_z with ⟨b46_z, hc_z⟩ | ⟨b46_z, hc_z⟩
      · replace b46_z : b.toInt ≤ hi_z.toInt := b46_z
        replace hc_z := rn_aload_n (am_cur_of (i := (45, 1, .aload_n 0, (0, 0, 0), 0)) (by decide +kernel)) g0_z hc_z
        replace hc_z := rn_getI (v := 0) (am_cur_of (i := (46, 3, .getfield 51, (4, 1, 408), 0)) (by decide +kernel)) (by decide +kernel) hf_z hc_z
        replace hc_z := rn_ifT (am_cur_of (i := (49, 3, .ifCond .eq 5, (30, 0, 0), 0)) (by decide +kernel)) (by decide) hc_z
        replace hc_z := rn_aload_n (am_cur_of (i := (54, 1, .aload_n 0, (0, 0, 0), 0)) (by decide +kernel)) g0_z hc_z
        replace hc_z := rn_callV (M' := am_m19) (o := 44) (ar := []) (rest := []) (L := lv_args 0 [.ref 44]) (am_cur_of (i := (55, 3, .invokevirtual 57, (19, 727, 3), 0)) (by decide +kernel)) rfl rfl rfl rfl hc_z
        obtain ⟨r47_z, h48_z, q49_z, hc_z⟩ := hc_z
        have vq49_z := rn_void rfl q49_z
        subst vq49_z
        replace hc_z : rn _ _ _ _ [] _ _ _ := hc_z
        replace hc_z := rn_iload_n (am_cur_of (i := (58, 1, .iload_n 3, (0, 0, 0), 0)) (by decide +kernel)) g3_z hc_z
        replace hc_z := rn_iret (am_cur_of (i := (59, 1, .ireturn, (0, 0, 0), 0)) (by decide +kernel)) hc_z
        obtain ⟨e50_z, e51_z⟩ := hc_z
        subst e51_z
        exact Or.inr (Or.inr ⟨b39_z.1, by omega, by omega, e50_z, _, none, q49_z⟩)
      · replace b46_z : hi_z.toInt < b.toInt := b46_z
        replace hc_z := rn_aload_n (am_cur_of (i := (40, 1, .aload_n 0, (0, 0, 0), 0)) (by decide +kernel)) g0_z hc_z
        replace hc_z := rn_iconst (w := 2) (am_cur_of (i := (41, 1, .iconst 2, (0, 0, 0), 0)) (by decide +kernel)) (by decide) hc_z
        replace hc_z := rn_callV (M' := am_m29) (o := 44) (ar := [.int 2]) (rest := []) (L := lv_args 0 [.ref 44, .int 2]) (am_cur_of (i := (42, 3, .invokevirtual 108, (29, 769, 3), 0)) (by decide +kernel)) rfl rfl rfl rfl hc_z
        obtain ⟨r52_z, h53_z, q54_z, hc_z⟩ := hc_z
        obtain ⟨rfl, yq54_z⟩ := rp_fail hf_z q54_z
        subst yq54_z
        replace hc_z : rn _ _ _ _ [] _ _ _ := hc_z
        replace hc_z := rn_aload_n (am_cur_of (i := (45, 1, .aload_n 0, (0, 0, 0), 0)) (by decide +kernel)) g0_z hc_z
        replace hc_z := rn_getI (v := 2) (am_cur_of (i := (46, 3, .getfield 51, (4, 1, 408), 0)) (by decide +kernel)) (by decide +kernel) (show rg_v (am_up (am_up h 44 1 (.int 2)) 44 2 (.int (rg_v h 44 9))) 44 1 = 2 from rfl) hc_z
        replace hc_z := rn_ifF (am_cur_of (i := (49, 3, .ifCond .eq 5, (30, 0, 0), 0)) (by decide +kernel)) (by decide) hc_z
        replace hc_z := rn_iload_n (am_cur_of (i := (52, 1, .iload_n 1, (0, 0, 0), 0)) (by decide +kernel)) g1_z hc_z
        replace hc_z := rn_iret (am_cur_of (i := (53, 1, .ireturn, (0, 0, 0), 0)) (by decide +kernel)) hc_z
        obtain ⟨e55_z, e56_z⟩ := hc_z
        exact Or.inr (Or.inl ⟨b39_z.1, by omega, e56_z⟩)
  · replace b39_z : ¬ a = (4 : Int32) ∧ ¬ a.toInt = (4 : Int32).toInt := b39_z
    replace hc_z := rn_aload_n (am_cur_of (i := (22, 1, .aload_n 0, (0, 0, 0), 0)) (by decide +kernel)) g0_z hc_z
    replace hc_z := rn_iconst (w := 1) (am_cur_of (i := (23, 1, .iconst 1, (0, 0, 0), 0)) (by decide +kernel)) (by decide) hc_z
    replace hc_z := rn_callV (M' := am_m29) (o := 44) (ar := [.int 1]) (rest := []) (L := lv_args 0 [.ref 44, .int 1]) (am_cur_of (i := (24, 3, .invokevirtual 108, (29, 769, 3), 0)) (by decide +kernel)) rfl rfl rfl rfl hc_z
    obtain ⟨r57_z, h58_z, q59_z, hc_z⟩ := hc_z
    obtain ⟨rfl, yq59_z⟩ := rp_fail hf_z q59_z
    subst yq59_z
    replace hc_z : rn _ _ _ _ [] _ _ _ := hc_z
    replace hc_z := rn_goto (am_cur_of (i := (27, 3, .goto 18, (25, 0, 0), 0)) (by decide +kernel)) hc_z
    replace hc_z := rn_aload_n (am_cur_of (i := (45, 1, .aload_n 0, (0, 0, 0), 0)) (by decide +kernel)) g0_z hc_z
    replace hc_z := rn_getI (v := 1) (am_cur_of (i := (46, 3, .getfield 51, (4, 1, 408), 0)) (by decide +kernel)) (by decide +kernel) (show rg_v (am_up (am_up h 44 1 (.int 1)) 44 2 (.int (rg_v h 44 9))) 44 1 = 1 from rfl) hc_z
    replace hc_z := rn_ifF (am_cur_of (i := (49, 3, .ifCond .eq 5, (30, 0, 0), 0)) (by decide +kernel)) (by decide) hc_z
    replace hc_z := rn_iload_n (am_cur_of (i := (52, 1, .iload_n 1, (0, 0, 0), 0)) (by decide +kernel)) g1_z hc_z
    replace hc_z := rn_iret (am_cur_of (i := (53, 1, .ireturn, (0, 0, 0), 0)) (by decide +kernel)) hc_z
    obtain ⟨e60_z, e61_z⟩ := hc_z
    exact Or.inl ⟨b39_z.1, e61_z⟩
def rp_W (what : Int32) (h : am_H) : am_H := am_up (am_up h 164 4 (.int what)) 164 5 (.int (rg_v h 164 10))
theorem rp_numM {n : Nat} {h h' : am_H} {r : Option Value} {lo hi_z a b : Int32} (ea : rg_v h 164 8 = a) (eb : rg_v h 164 9 = b) (hc_z : rn n am_m161 0 (lv_args 0 [.ref 164, .int lo, .int hi_z]) [] h r h') : (¬ a = 3 ∧ r = some (.int 0) ∧ h' = rp_W 1 h) ∨ (a = 3 ∧ (b.toInt < lo.toInt ∨ hi_z.toInt < b.toInt) ∧ r = some (.int 0) ∧ h' = rp_W 2 h) ∨ (a = 3 ∧ lo.toInt ≤ b.toInt ∧ b.toInt ≤ hi_z.toInt ∧ r = some (.int 1) ∧ ∃ n2_z r2_z, rn n2_z am_m151 0 (lv_args 0 [.ref 164]) [] (am_up h 164 11 (.int b)) r2_z h') := by
  have z3_z : (3 : Int32).toInt = 3 := by decide
  have g0_z : am_get (lv_args 0 [.ref 164, .int lo, .int hi_z]) 0 = some (.ref 164) := rfl
  have g1_z : am_get (lv_args 0 [.ref 164, .int lo, .int hi_z]) 1 = some (.int lo) := rfl
  have g2_z : am_get (lv_args 0 [.ref 164, .int lo, .int hi_z]) 2 = some (.int hi_z) := rfl
  replace hc_z := rn_aload_n (am_cur_of (i := (0, 1, .aload_n 0, (0, 0, 0), 0)) (by decide +kernel)) g0_z hc_z
  replace hc_z := rn_getI (v := a) (am_cur_of (i := (1, 3, .getfield 157, (12, 8, 1392), 0)) (by decide +kernel)) (by decide +kernel) ea hc_z
  replace hc_z := rn_iconst (w := 3) (am_cur_of (i := (4, 1, .iconst 3, (0, 0, 0), 0)) (by decide +kernel)) (by decide) hc_z
  replace hc_z := rn_cmp (am_cur_of (i := (5, 3, .if_icmp .eq 9, (8, 0, 0), 0)) (by decide +kernel)) hc_z
  rcases hc_z with ⟨b62_z, hc_z⟩ | ⟨b62_z, hc_z⟩
  · replace b62_z : a = (3 : Int32) ∧ a.toInt = (3 : Int32).toInt := b62_z
    replace hc_z := rn_aload_n (am_cur_of (i := (14, 1, .aload_n 0, (0, 0, 0), 0)) (by decide +kernel)) g0_z hc_z
    replace hc_z := rn_getI (v := b) (am_cur_of (i := (15, 3, .getfield 168, (12, 9, 1393), 0)) (by decide +kernel)) (by decide +kernel) eb hc_z
    replace hc_z := rn_iload_n (am_cur_of (i := (18, 1, .iload_n 1, (0, 0, 0), 0)) (by decide +kernel)) g1_z hc_z
    replace hc_z := rn_iload_n (am_cur_of (i := (19, 1, .iload_n 2, (0, 0, 0), 0)) (by decide +kernel)) g2_z hc_z
    replace hc_z := rn_callS (M' := am_m162) (ar := [.int hi_z, .int lo, .int b]) (rest := []) (L := lv_args 0 [.int b, .int lo, .int hi_z]) (am_cur_of (i := (20, 3, .invokestatic 184, (162, 1681, 3), 0)) (by decide +kernel)) rfl rfl rfl rfl hc_z
    obtain ⟨r63_z, h64_z, q65_z, hc_z⟩ := hc_z
    rcases rp_isIn q65_z with ⟨b66_z, rfl, y67_z⟩ | ⟨b68_z, b69_z, rfl, y70_z⟩ | ⟨b71_z, b72_z, rfl, y73_z⟩
    · replace y67_z := y67_z.symm
      subst y67_z
      replace b66_z : b.toInt < lo.toInt := b66_z
      replace hc_z : rn _ _ _ _ [.int 0] _ _ _ := hc_z
      replace hc_z := rn_ifF (am_cur_of (i := (23, 3, .ifCond .ne 9, (18, 0, 0), 0)) (by decide +kernel)) (by decide) hc_z
      replace hc_z := rn_aload_n (am_cur_of (i := (26, 1, .aload_n 0, (0, 0, 0), 0)) (by decide +kernel)) g0_z hc_z
      replace hc_z := rn_iconst (w := 2) (am_cur_of (i := (27, 1, .iconst 2, (0, 0, 0), 0)) (by decide +kernel)) (by decide) hc_z
      replace hc_z := rn_callV (M' := am_m158) (o := 164) (ar := [.int 2]) (rest := []) (L := lv_args 0 [.ref 164, .int 2]) (am_cur_of (i := (28, 3, .invokevirtual 181, (158, 1665, 3), 0)) (by decide +kernel)) rfl rfl rfl rfl hc_z
      obtain ⟨r74_z, h75_z, q76_z, hc_z⟩ := hc_z
      obtain ⟨rfl, yq76_z⟩ := rp_wrong q76_z
      subst yq76_z
      replace hc_z : rn _ _ _ _ [.int 0] _ _ _ := hc_z
      replace hc_z := rn_iret (am_cur_of (i := (31, 1, .ireturn, (0, 0, 0), 0)) (by decide +kernel)) hc_z
      obtain ⟨e77_z, e78_z⟩ := hc_z
      exact Or.inr (Or.inl ⟨b62_z.1, by omega, e77_z, e78_z⟩)
    · replace y70_z := y70_z.symm
      subst y70_z
      replace b68_z : lo.toInt ≤ b.toInt := b68_z
      replace b69_z : hi_z.toInt < b.toInt := b69_z
      replace hc_z : rn _ _ _ _ [.int 0] _ _ _ := hc_z
      replace hc_z := rn_ifF (am_cur_of (i := (23, 3, .ifCond .ne 9, (18, 0, 0), 0)) (by decide +kernel)) (by decide) hc_z
      replace hc_z := rn_aload_n (am_cur_of (i := (26, 1, .aload_n 0, (0, 0, 0), 0)) (by decide +kernel)) g0_z hc_z
      replace hc_z := rn_iconst (w := 2) (am_cur_of (i := (27, 1, .iconst 2, (0, 0, 0), 0)) (by decide +kernel)) (by decide) hc_z
      replace hc_z := rn_callV (M' := am_m158) (o := 164) (ar := [.int 2]) (rest := []) (L := lv_args 0 [.ref 164, .int 2]) (am_cur_of (i := (28, 3, .invokevirtual 181, (158, 1665, 3), 0)) (by decide +kernel)) rfl rfl rfl rfl hc_z
      obtain ⟨r79_z, h80_z, q81_z, hc_z⟩ := hc_z
      obtain ⟨rfl, yq81_z⟩ := rp_wrong q81_z
      subst yq81_z
      replace hc_z : rn _ _ _ _ [.int 0] _ _ _ := hc_z
      replace hc_z := rn_iret (am_cur_of (i := (31, 1, .ireturn, (0, 0, 0), 0)) (by decide +kernel)) hc_z
      obtain ⟨e82_z, e83_z⟩ := hc_z
      exact Or.inr (Or.inl ⟨b62_z.1, by omega, e82_z, e83_z⟩)
    · replace y73_z := y73_z.symm
      subst y73_z
      replace b71_z : lo.toInt ≤ b.toInt := b71_z
      replace b72_z : b.toInt ≤ hi_z.toInt := b72_z
      replace hc_z : rn _ _ _ _ [.int 1] _ _ _ := hc_z
      replace hc_z := rn_ifT (am_cur_of (i := (23, 3, .ifCond .ne 9, (18, 0, 0), 0)) (by decide +kernel)) (by decide) hc_z
      replace hc_z := rn_aload_n (am_cur_of (i := (32, 1, .aload_n 0, (0, 0, 0), 0)) (by decide +kernel)) g0_z hc_z
      replace hc_z := rn_aload_n (am_cur_of (i := (33, 1, .aload_n 0, (0, 0, 0), 0)) (by decide +kernel)) g0_z hc_z
      replace hc_z := rn_getI (v := b) (am_cur_of (i := (34, 3, .getfield 168, (12, 9, 1393), 0)) (by decide +kernel)) (by decide +kernel) eb hc_z
      replace hc_z := rn_put (am_cur_of (i := (37, 3, .putfield 188, (12, 11, 1395), 0)) (by decide +kernel)) (by decide +kernel) hc_z
      replace hc_z := rn_aload_n (am_cur_of (i := (40, 1, .aload_n 0, (0, 0, 0), 0)) (by decide +kernel)) g0_z hc_z
      replace hc_z := rn_callV (M' := am_m151) (o := 164) (ar := []) (rest := []) (L := lv_args 0 [.ref 164]) (am_cur_of (i := (41, 3, .invokevirtual 191, (151, 1636, 3), 0)) (by decide +kernel)) rfl rfl rfl rfl hc_z
      obtain ⟨r84_z, h85_z, q86_z, hc_z⟩ := hc_z
      have vq86_z := rn_void rfl q86_z
      subst vq86_z
      replace hc_z : rn _ _ _ _ [] _ _ _ := hc_z
      replace hc_z := rn_iconst (w := 1) (am_cur_of (i := (44, 1, .iconst 1, (0, 0, 0), 0)) (by decide +kernel)) (by decide) hc_z
      replace hc_z := rn_iret (am_cur_of (i := (45, 1, .ireturn, (0, 0, 0), 0)) (by decide +kernel)) hc_z
      obtain ⟨e87_z, e88_z⟩ := hc_z
      subst e88_z
      exact Or.inr (Or.inr ⟨b62_z.1, by omega, by omega, e87_z, _, none, q86_z⟩)
  · replace b62_z : ¬ a = (3 : Int32) ∧ ¬ a.toInt = (3 : Int32).toInt := b62_z
    replace hc_z := rn_aload_n (am_cur_of (i := (8, 1, .aload_n 0, (0, 0, 0), 0)) (by decide +kernel)) g0_z hc_z
    replace hc_z := rn_iconst (w := 1) (am_cur_of (i := (9, 1, .iconst 1, (0, 0, 0), 0)) (by decide +kernel)) (by decide) hc_z
    replace hc_z := rn_callV (M' := am_m158) (o := 164) (ar := [.int 1]) (rest := []) (L := lv_args 0 [.ref 164, .int 1]) (am_cur_of (i := (10, 3, .invokevirtual 181, (158, 1665, 3), 0)) (by decide +kernel)) rfl rfl rfl rfl hc_z
    obtain ⟨r89_z, h90_z, q91_z, hc_z⟩ := hc_z
    obtain ⟨rfl, yq91_z⟩ := rp_wrong q91_z
    subst yq91_z
    replace hc_z : rn _ _ _ _ [.int 0] _ _ _ := hc_z
    replace hc_z := rn_iret (am_cur_of (i := (13, 1, .ireturn, (0, 0, 0), 0)) (by decide +kernel)) hc_z
    obtain ⟨e92_z, e93_z⟩ := hc_z
    exact Or.inl ⟨b62_z.1, e92_z, e93_z⟩
/-- the same fault in both -/
def rq_F (p : Int32) (h' g' : am_H) : Prop := ∃ w : Int32, ¬ w = 0 ∧ rg_v h' 44 1 = w ∧ rg_v h' 44 2 = p ∧ rg_v g' 164 4 = w ∧ rg_v g' 164 5 = p
theorem rq_Fi {T : Nat → Int32} {S x p : Int32} {d : Nat} {h g : am_H} {w : Int32} (R : rq T S x p d h g) (hw_z : ¬ w = 0) : rq_F p (rp_F w h) (rp_W w g) := by
  obtain ⟨R1, R2, R3, R4, R5, R6, -⟩ := R
  exact ⟨w, hw_z, rfl, R5, rfl, R6⟩
theorem rq0_got {T : Nat → Int32} {S x : Int32} {d : Nat} {h g : am_H} {v : Value} (R : rq0_z T S x d h g) : rq0_z T S x d h (am_up g 164 11 v) := by
  obtain ⟨R1, ⟨m2_z, m3_z, m4_z, m5_z, m6_z, m7_z, m8_z⟩, R3, R4⟩ := R
  exact ⟨R1, ⟨m2_z, m3_z, m4_z, m5_z, m6_z, m7_z, m8_z⟩, R3, R4⟩
theorem pr_num {T : Nat → Int32} {S x p lo hi_z : Int32} {d n n' : Nat} {h h' g g' : am_H} {r r' : Option Value} (R : rq T S x p d h g) (lo0_z : 0 ≤ lo.toInt) (hi9_z : hi_z.toInt ≤ 99999) (hc_z : rn n am_m30 0 (lv_args 0 [.ref 44, .int lo, .int hi_z]) [] h r h') (hm_z : rn n' am_m161 0 (lv_args 0 [.ref 164, .int lo, .int hi_z]) [] g r' g') :
    (∃ v x2_z p2_z, r = some (.int v) ∧ r' = some (.int 1) ∧ lo.toInt ≤ v.toInt ∧ v.toInt ≤ hi_z.toInt ∧ rq T S x2_z p2_z d h' g' ∧ x.toInt ≤ p2_z.toInt ∧ rg_v g' 164 11 = v ∧ rx_C h h' ∧ rx_M g g' ∧ rg_v h' 44 7 = rg_v h 44 7 ∧ ∀ k, rg_v g' 167 k = rg_v g 167 k) ∨ (r' = some (.int 0) ∧ rq_F p h' g') := by
  have tkR := R.2.2.2.2.2.2.2.2.2
  rcases rp_numC R.2.2.2.1 rfl rfl hc_z with ⟨c1_z, c2_z⟩ | ⟨c1_z, c2_z, c3_z⟩ | ⟨c1_z, c2_z, c3_z, c4_z, n2_z, r2_z, c5_z⟩
  · have h3_z := tk_n4 tkR c1_z
    rcases rp_numM rfl rfl hm_z with ⟨m1_z, m2_z, m3_z⟩ | ⟨m1_z, -⟩ | ⟨m1_z, -⟩
    · subst c2_z m3_z
      exact Or.inr ⟨m2_z, rq_Fi R (by decide)⟩
    · exact absurd m1_z h3_z
    · exact absurd m1_z h3_z
  · obtain ⟨h3_z, b0_z, d0_z, hbd⟩ := tk_4 tkR c1_z
    rcases rp_numM rfl rfl hm_z with ⟨m1_z, -⟩ | ⟨m1_z, m2_z, m3_z, m4_z⟩ | ⟨m1_z, m2_z, m3_z, -⟩
    · exact absurd h3_z m1_z
    · subst c3_z m4_z
      exact Or.inr ⟨m3_z, rq_Fi R (by decide)⟩
    · exfalso
      rcases hbd with q | q
      · rw [q] at c2_z
        omega
      · omega
  · obtain ⟨h3_z, b0_z, d0_z, hbd⟩ := tk_4 tkR c1_z
    rcases rp_numM rfl rfl hm_z with ⟨m1_z, -⟩ | ⟨m1_z, m2_z, -⟩ | ⟨m1_z, m2_z, m3_z, m4_z, n3_z, r3_z, m5_z⟩
    · exact absurd h3_z m1_z
    · exfalso
      rcases hbd with q | q
      · rw [q] at c2_z c3_z
        omega
      · omega
    · have hbd' : rg_v h 44 11 = rg_v g 164 9 := by
        rcases hbd with q | q
        · exact q
        · omega
      obtain ⟨t1_z, t2_z, x2_z, p2_z, t3_z, t4_z, t5_z, t6_z⟩ := pr_tok (rq0_got (rq_0 R)) c5_z m5_z
      exact Or.inl ⟨_, x2_z, p2_z, c4_z, m4_z, c2_z, c3_z, t3_z, t4_z, (rg_v_fr t6_z (by decide)).trans hbd'.symm, rx_C_f t5_z, rx_M_t (rx_M_u (by decide) rx_M_r) (rx_M_f t6_z), rg_v_fr t5_z (by decide), fun k => (rg_v_fr t6_z (rg_v_in (by decide) k)).trans rfl⟩
