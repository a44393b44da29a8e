/-! ===== TEXT OF BOTH (wip/r/gen99qy.py) ===== -/
/-- an object of a class that nobody of these methods writes stays -/
def rf_w (c : Nat) (ok : Nat → Bool) : rw_W := (fun ci_z f => !(Nat.beq (rg_cl ci_z f) 9) && !(Nat.beq ci_z c), true, ok)
def rf_P (o : Nat) (v : Nat → Value) (h : am_H) : Prop := rg_Gd h ∧ ∀ k, h o k = v k
theorem rf_wP {c o : Nat} {ok : Nat → Bool} {v : Nat → Value} (ho : am_ks0[o]? = some (.inl c)) : rw_P (rf_w c ok) (rf_P o v) := by
  refine ⟨fun h o2_z ci_z f u hP hk_z hc_z hf_z => ?_, fun _ h o2_z r n ty u hP hk_z ht hq_z hf_z => ?_⟩
  · have hc_z' : (!(Nat.beq (rg_cl ci_z f) 9) && !(Nat.beq ci_z c)) = true := hc_z
    rw [Bool.and_eq_true] at hc_z'
    refine ⟨rn_wP.1 h o2_z ci_z f u hP.1 hk_z hc_z'.1 hf_z, fun k => ?_⟩
    have hne : ¬ o = o2_z := by
      intro e
      subst e
      rw [ho] at hk_z
      cases hk_z
      have e2_z := hc_z'.2
      rw [show Nat.beq c c = true from Nat.beq_refl c] at e2_z
      cases e2_z
    rw [am_up_other _ _ _ _ _ hne]
    exact hP.2 k
  · have hne : ¬ o = o2_z := by
      intro e
      subst e
      rw [ho] at hk_z
      cases hk_z
    exact ⟨rn_wP.2 rfl h o2_z r n ty u hP.1 hk_z ht hq_z hf_z, fun k => by rw [am_up_other _ _ _ _ _ hne]; exact hP.2 k⟩
def rf_M (c : Nat) (ok : Nat → Bool) (a : Nat) : Bool := !(ok a) || (match am_prog[a]? with
  | some M => M.2.2.2.all (rw_I (rf_w c ok))
  | none => true)
theorem rf_K {c a : Nat} {ok : Nat → Bool} {M : am_M} (hall : (List.range 256).all (rf_M c ok) = true) (ha_z : ok a = true) (hM : am_prog[a]? = some M) : rw_K (rf_w c ok) M.2.2.2 := by
  have hl_z : a < am_prog.length := (List.getElem?_eq_some_iff.mp hM).1
  rw [am_prog_len] at hl_z
  have hb_z := List.all_eq_true.mp hall a (List.mem_range.mpr (by omega))
  unfold rf_M at hb_z
  rw [ha_z, hM] at hb_z
  exact List.all_eq_true.mp hb_z
theorem rf_keep {c o a n k : Nat} {ok : Nat → Bool} {M : am_M} {ls : am_L} {st : List Value} {h h' : am_H} {r : Option Value} (ho : am_ks0[o]? = some (.inl c)) (hall : (List.range 256).all (rf_M c ok) = true) (ha_z : ok a = true) (hM : am_prog[a]? = some M) (hr : rn n M k ls st h r h') : ∀ j, h' o j = h o j := by
  obtain ⟨-, hG, nc, ns, m, -, hrun⟩ := hr
  exact (rw_run (rf_wP ho) (fun a M ha_z hM => Or.inl (rf_K hall ha_z hM)) m M _ ls st h nc ns _ (rf_K hall ha_z hM) (fun j hj_z => rf_K hall ha_z hM j (List.mem_of_mem_drop hj_z)) ⟨hG, fun _ => rfl⟩ hrun).2.2
def rf_4 (a : Nat) : Bool := Nat.beq a 14 || Nat.beq a 54 || Nat.beq a 55 || Nat.beq a 56 || Nat.beq a 57 || Nat.beq a 58
def rf_0 (a : Nat) : Bool := Nat.beq a 4 || Nat.beq a 5 || (Nat.ble 18 a && Nat.ble a 56)
set_option maxRecDepth 1000000 in
theorem rf_4all : (List.range 256).all (rf_M 4 rf_4) = true := by decide +kernel
set_option maxRecDepth 1000000 in
theorem rf_0all : (List.range 256).all (rf_M 0 rf_0) = true := by decide +kernel
theorem rf_v4 {a n k : Nat} {M : am_M} {ls : am_L} {st : List Value} {h h' : am_H} {r : Option Value} (ha_z : rf_4 a = true) (hM : am_prog[a]? = some M) (hr : rn n M k ls st h r h') : ∀ j, rg_v h' 44 j = rg_v h 44 j := fun j => by
  unfold rg_v
  rw [rf_keep rs_k44 rf_4all ha_z hM hr j]
theorem rf_k0 : am_ks0[0]? = some (.inl 0) := by decide +kernel
/-- how the text's loop ends in both -/
def tl_Q (d : Nat) (gz h' g' : am_H) (r r' : Option Value) : Prop := (r = some (.int 1) ∧ r' = some (.int (rg_v h' 44 0)) ∧ ∃ hq_z gq n1_z n2_z, rp d hq_z gq ∧ hq_z 44 6 = .ref d ∧ rg_v hq_z 44 1 = 0 ∧ rn n1_z am_m54 0 (lv_args 0 [.ref d]) [] hq_z none h' ∧ rn n2_z am_m144 0 (lv_args 0 [.ref 164]) [] gq none g') ∨ (r = some (.int 0) ∧ r' = some (.int (-1)) ∧ (∃ p, rq_F p h' g') ∧ zM gz g' ∧ yk gz g')
/-- how text ends: refused; a fault; read -/
def tx_3 (d : Nat) (h' g' : am_H) : Prop := ∃ hq_z gq h1_z h2_z h3_z h4_z n1_z n2_z n3_z n4_z n5_z, rp d hq_z gq ∧ rg_v hq_z 44 1 = 0 ∧ rn n1_z am_m54 0 (lv_args 0 [.ref d]) [] hq_z none h1_z ∧ rn n2_z am_m144 0 (lv_args 0 [.ref 164]) [] gq none g' ∧ rn n3_z am_m14 0 (lv_args 0 [.ref 48, .ref d]) [] (am_up (am_up h1_z 0 3 (.ref (25 - d))) 0 2 (.ref d)) none h2_z ∧ rn n4_z am_m57 0 (lv_args 0 [.ref 60]) [] h2_z none h3_z ∧ rn n5_z am_m58 0 (lv_args 0 [.ref 142]) [] h3_z none h4_z ∧ h' = am_up h4_z 0 8 (.int 0) ∧ h' 0 2 = .ref d
def tx_O (d : Nat) (h g h' g' : am_H) : Prop := (h' = h ∧ g' = am_up g 164 2 (.int 0)) ∨ ((∃ p, rq_F p h' g') ∧ zC (25 - d) h h' ∧ zM g g' ∧ h' 0 2 = .ref (25 - d) ∧ (∀ o k, dk_o d o → ¬ o = 0 → h' o k = h o k) ∧ yk g g') ∨ tx_3 d h' g'
theorem cr_rp {d : Nat} {h g : am_H} (A : rp d h g) : cr g := by
  obtain ⟨-, ⟨n1_z, n2_z, n3_z⟩, ⟨t1_z, t2_z, t3_z⟩, ⟨l1_z, l2_z, l3_z⟩, ⟨r1_z, r2_z, r3_z⟩, -⟩ := A
  rw [n1_z] at n2_z n3_z
  rw [t1_z] at t2_z t3_z
  rw [l1_z] at l2_z l3_z
  rw [r1_z] at r2_z r3_z
  exact ⟨⟨n2_z, n3_z⟩, ⟨t2_z, t3_z⟩, ⟨l2_z, l3_z⟩, ⟨r2_z, r3_z⟩⟩

theorem tk_0 {a b c d : Int32} (h : tk a b c d) : (a = 0 → c = 0) ∧ (c = 0 → a = 0) := by
  rcases h with ⟨p, q⟩ | ⟨p, q⟩ | ⟨k, -, p, q, -⟩ | ⟨p, q, -⟩ | ⟨p, q, -⟩ | ⟨p, q, -⟩ | ⟨p, q⟩
  · exact ⟨fun _ => q, fun _ => p⟩
  · refine ⟨fun e => absurd (p.symm.trans e) (by decide), fun e => ?_⟩
    rcases q with q | ⟨q, -⟩ <;> exact absurd (q.symm.trans e) (by decide)
  · exact ⟨fun e => absurd (p.symm.trans e) (by decide), fun e => absurd (q.symm.trans e) (by decide)⟩
  · exact ⟨fun e => absurd (p.symm.trans e) (by decide), fun e => absurd (q.symm.trans e) (by decide)⟩
  · exact ⟨fun e => absurd (p.symm.trans e) (by decide), fun e => absurd (q.symm.trans e) (by decide)⟩
  · exact ⟨fun e => absurd (p.symm.trans e) (by decide), fun e => absurd (q.symm.trans e) (by decide)⟩
  · refine ⟨fun e => absurd (p.symm.trans e) (by decide), fun e => ?_⟩
    rcases q with ⟨-, q, -⟩ | ⟨-, q, -⟩ | ⟨-, q, -⟩ | ⟨-, q, -⟩ | ⟨-, q, -⟩ | ⟨-, q, -⟩ | ⟨-, q, -⟩ | ⟨-, q, -⟩ | ⟨-, q, -⟩ | ⟨-, q, -⟩ | ⟨-, q, -⟩ | ⟨-, q, -⟩ | ⟨-, q, -⟩ <;> exact absurd (q.symm.trans e) (by decide)
def rf_z (a : Nat) : Bool := Nat.beq a 14 || Nat.beq a 57 || Nat.beq a 58
set_option maxRecDepth 1000000 in
theorem rf_zall : (List.range 256).all (rf_M 0 rf_z) = true := by decide +kernel
theorem tl2_z {T : Nat → Int32} {S : Int32} {gz h' g' : am_H} {r r' : Option Value} : ∀ (m : Nat) (i ln x p : Int32) (n' : Nat) (h g : am_H) (ls ls2_z : am_L), 0 ≤ i.toInt → i.toInt ≤ p.toInt → rq T S x p 2 h g → rp 2 h g → rp_t h g → (zM gz g ∧ yk gz g) → am_get ls 0 = some (.ref 44) → am_get ls 4 = some (.int i) → am_get ls2_z 0 = some (.ref 164) → am_get ls2_z 2 = some (.int ln) → rg_v h 44 0 = ln → rn m am_m18 31 ls [] h r h' → rn n' am_m150 32 ls2_z [] g r' g' → tl_Q 2 gz h' g' r r' := by
  intro m
  induction m with
  | zero => intro i ln x p n' h g ls ls2_z i0_z ip R A B hz_z g0_z g4_z g0m g2m el hc_z hm_z; exact absurd hc_z rn_0
  | succ m ih_z =>
    intro i ln x p n' h g ls ls2_z i0_z ip R A B hz_z g0_z g4_z g0m g2m el hc_z hm_z
    have xS := R.1.2.2.2.2.1
    have S7 := R.1.2.2.2.2.2.1
    have p0_z := R.2.2.2.2.2.2.1
    have px := R.2.2.2.2.2.2.2.1
    have pk := R.2.2.2.2.2.2.2.2.1
    have R4 := R.2.2.2.1
    have ES : rg_v h 44 5 = S := R.1.2.1
    have z0_z : (0 : Int32).toInt = 0 := by decide
    by_cases ka : rg_v h 44 10 = 0
    · have kc := (tk_0 R.2.2.2.2.2.2.2.2.2).1 ka
      replace hc_z := rn_iload (am_cur_of (i := (54, 2, .iload 4, (0, 0, 0), 0)) (by decide +kernel)) g4_z hc_z
      replace hc_z := rn_aload_n (am_cur_of (i := (56, 1, .aload_n 0, (0, 0, 0), 0)) (by decide +kernel)) g0_z hc_z
      replace hc_z := rn_getI (v := S) (am_cur_of (i := (57, 3, .getfield 37, (4, 5, 414), 0)) (by decide +kernel)) (by decide +kernel) ES hc_z
      replace hc_z := rn_cmp (am_cur_of (i := (60, 3, .if_icmp .ge 31, (47, 0, 0), 0)) (by decide +kernel)) hc_z
      rcases hc_z with ⟨b94_z, hc_z⟩ | ⟨b94_z, hc_z⟩
      · replace b94_z : S.toInt ≤ i.toInt := b94_z
        replace hm_z := rn_aload_n (am_cur_of (i := (55, 1, .aload_n 0, (0, 0, 0), 0)) (by decide +kernel)) g0m hm_z
        replace hm_z := rn_getI (v := 0) (am_cur_of (i := (56, 3, .getfield 157, (12, 8, 1392), 0)) (by decide +kernel)) (by decide +kernel) kc hm_z
        replace hm_z := rn_ifT (am_cur_of (i := (59, 3, .ifCond .eq 18, (42, 0, 0), 0)) (by decide +kernel)) (by decide) hm_z
        replace hm_z := rn_aload_n (am_cur_of (i := (77, 1, .aload_n 0, (0, 0, 0), 0)) (by decide +kernel)) g0m hm_z
        replace hm_z := rn_callV (M' := am_m144) (o := 164) (ar := []) (rest := []) (L := lv_args 0 [.ref 164]) (am_cur_of (i := (78, 3, .invokevirtual 136, (144, 1361, 3), 0)) (by decide +kernel)) rfl rfl rfl rfl hm_z
        obtain ⟨r95_z, h96_z, q97_z, hm_z⟩ := hm_z
        have vo := rn_void rfl q97_z
        subst vo
        replace hm_z : rn _ _ _ _ [] _ _ _ := hm_z
        replace hm_z := rn_iload_n (am_cur_of (i := (81, 1, .iload_n 2, (0, 0, 0), 0)) (by decide +kernel)) g2m hm_z
        replace hm_z := rn_iret (am_cur_of (i := (82, 1, .ireturn, (0, 0, 0), 0)) (by decide +kernel)) hm_z
        obtain ⟨e98_z, e99_z⟩ := hm_z
        replace hc_z := rn_aload_n (am_cur_of (i := (91, 1, .aload_n 0, (0, 0, 0), 0)) (by decide +kernel)) g0_z hc_z
        replace hc_z := rn_getI (v := 0) (am_cur_of (i := (92, 3, .getfield 51, (4, 1, 408), 0)) (by decide +kernel)) (by decide +kernel) R4 hc_z
        replace hc_z := rn_ifF (am_cur_of (i := (95, 3, .ifCond .ne 10, (53, 0, 0), 0)) (by decide +kernel)) (by decide) hc_z
        replace hc_z := rn_aload_n (am_cur_of (i := (98, 1, .aload_n 0, (0, 0, 0), 0)) (by decide +kernel)) g0_z hc_z
        replace hc_z := rn_getM (x := 2) (am_cur_of (i := (99, 3, .getfield 25, (4, 6, 415), 0)) (by decide +kernel)) R.2.2.1 hc_z
        replace hc_z := rn_callV (M' := am_m54) (o := 2) (ar := []) (rest := []) (L := lv_args 0 [.ref 2]) (am_cur_of (i := (102, 3, .invokevirtual 69, (54, 872, 3), 0)) (by decide +kernel)) rfl rfl rfl rfl hc_z
        obtain ⟨r100_z, h101_z, q102_z, hc_z⟩ := hc_z
        have vo := rn_void rfl q102_z
        subst vo
        have k0_z := rf_v4 (a := 54) (by decide) rfl q102_z
        replace hc_z : rn _ _ _ _ [] _ _ _ := hc_z
        replace hc_z := rn_aload_n (am_cur_of (i := (105, 1, .aload_n 0, (0, 0, 0), 0)) (by decide +kernel)) g0_z hc_z
        replace hc_z := rn_getI (v := 0) (am_cur_of (i := (106, 3, .getfield 51, (4, 1, 408), 0)) (by decide +kernel)) (by decide +kernel) ((k0_z 1).trans R4) hc_z
        replace hc_z := rn_ifF (am_cur_of (i := (109, 3, .ifCond .ne 7, (58, 0, 0), 0)) (by decide +kernel)) (by decide) hc_z
        replace hc_z := rn_iconst (w := 1) (am_cur_of (i := (112, 1, .iconst 1, (0, 0, 0), 0)) (by decide +kernel)) (by decide) hc_z
        replace hc_z := rn_goto (am_cur_of (i := (113, 3, .goto 4, (59, 0, 0), 0)) (by decide +kernel)) hc_z
        replace hc_z := rn_iret (am_cur_of (i := (117, 1, .ireturn, (0, 0, 0), 0)) (by decide +kernel)) hc_z
        obtain ⟨e103_z, e104_z⟩ := hc_z
        replace e104_z := e104_z.symm
        subst e104_z
        replace e99_z := e99_z.symm
        subst e99_z
        exact Or.inl ⟨e103_z, by rw [k0_z 0, el]; exact e98_z, h, g, _, _, A, R.2.2.1, R4, q102_z, q97_z⟩
      · replace b94_z : i.toInt < S.toInt := b94_z
        replace hc_z := rn_aload_n (am_cur_of (i := (63, 1, .aload_n 0, (0, 0, 0), 0)) (by decide +kernel)) g0_z hc_z
        replace hc_z := rn_getI (v := 0) (am_cur_of (i := (64, 3, .getfield 51, (4, 1, 408), 0)) (by decide +kernel)) (by decide +kernel) R4 hc_z
        replace hc_z := rn_ifF (am_cur_of (i := (67, 3, .ifCond .ne 24, (47, 0, 0), 0)) (by decide +kernel)) (by decide) hc_z
        replace hc_z := rn_aload_n (am_cur_of (i := (70, 1, .aload_n 0, (0, 0, 0), 0)) (by decide +kernel)) g0_z hc_z
        replace hc_z := rn_getI (v := 0) (am_cur_of (i := (71, 3, .getfield 60, (4, 10, 419), 0)) (by decide +kernel)) (by decide +kernel) ka hc_z
        replace hc_z := rn_ifT (am_cur_of (i := (74, 3, .ifCond .eq 17, (47, 0, 0), 0)) (by decide +kernel)) (by decide) hc_z
        replace hm_z := rn_aload_n (am_cur_of (i := (55, 1, .aload_n 0, (0, 0, 0), 0)) (by decide +kernel)) g0m hm_z
        replace hm_z := rn_getI (v := 0) (am_cur_of (i := (56, 3, .getfield 157, (12, 8, 1392), 0)) (by decide +kernel)) (by decide +kernel) kc hm_z
        replace hm_z := rn_ifT (am_cur_of (i := (59, 3, .ifCond .eq 18, (42, 0, 0), 0)) (by decide +kernel)) (by decide) hm_z
        replace hm_z := rn_aload_n (am_cur_of (i := (77, 1, .aload_n 0, (0, 0, 0), 0)) (by decide +kernel)) g0m hm_z
        replace hm_z := rn_callV (M' := am_m144) (o := 164) (ar := []) (rest := []) (L := lv_args 0 [.ref 164]) (am_cur_of (i := (78, 3, .invokevirtual 136, (144, 1361, 3), 0)) (by decide +kernel)) rfl rfl rfl rfl hm_z
        obtain ⟨r105_z, h106_z, q107_z, hm_z⟩ := hm_z
        have vo := rn_void rfl q107_z
        subst vo
        replace hm_z : rn _ _ _ _ [] _ _ _ := hm_z
        replace hm_z := rn_iload_n (am_cur_of (i := (81, 1, .iload_n 2, (0, 0, 0), 0)) (by decide +kernel)) g2m hm_z
        replace hm_z := rn_iret (am_cur_of (i := (82, 1, .ireturn, (0, 0, 0), 0)) (by decide +kernel)) hm_z
        obtain ⟨e108_z, e109_z⟩ := hm_z
        replace hc_z := rn_aload_n (am_cur_of (i := (91, 1, .aload_n 0, (0, 0, 0), 0)) (by decide +kernel)) g0_z hc_z
        replace hc_z := rn_getI (v := 0) (am_cur_of (i := (92, 3, .getfield 51, (4, 1, 408), 0)) (by decide +kernel)) (by decide +kernel) R4 hc_z
        replace hc_z := rn_ifF (am_cur_of (i := (95, 3, .ifCond .ne 10, (53, 0, 0), 0)) (by decide +kernel)) (by decide) hc_z
        replace hc_z := rn_aload_n (am_cur_of (i := (98, 1, .aload_n 0, (0, 0, 0), 0)) (by decide +kernel)) g0_z hc_z
        replace hc_z := rn_getM (x := 2) (am_cur_of (i := (99, 3, .getfield 25, (4, 6, 415), 0)) (by decide +kernel)) R.2.2.1 hc_z
        replace hc_z := rn_callV (M' := am_m54) (o := 2) (ar := []) (rest := []) (L := lv_args 0 [.ref 2]) (am_cur_of (i := (102, 3, .invokevirtual 69, (54, 872, 3), 0)) (by decide +kernel)) rfl rfl rfl rfl hc_z
        obtain ⟨r110_z, h111_z, q112_z, hc_z⟩ := hc_z
        have vo := rn_void rfl q112_z
        subst vo
        have k0_z := rf_v4 (a := 54) (by decide) rfl q112_z
        replace hc_z : rn _ _ _ _ [] _ _ _ := hc_z
        replace hc_z := rn_aload_n (am_cur_of (i := (105, 1, .aload_n 0, (0, 0, 0), 0)) (by decide +kernel)) g0_z hc_z
        replace hc_z := rn_getI (v := 0) (am_cur_of (i := (106, 3, .getfield 51, (4, 1, 408), 0)) (by decide +kernel)) (by decide +kernel) ((k0_z 1).trans R4) hc_z
        replace hc_z := rn_ifF (am_cur_of (i := (109, 3, .ifCond .ne 7, (58, 0, 0), 0)) (by decide +kernel)) (by decide) hc_z
        replace hc_z := rn_iconst (w := 1) (am_cur_of (i := (112, 1, .iconst 1, (0, 0, 0), 0)) (by decide +kernel)) (by decide) hc_z
        replace hc_z := rn_goto (am_cur_of (i := (113, 3, .goto 4, (59, 0, 0), 0)) (by decide +kernel)) hc_z
        replace hc_z := rn_iret (am_cur_of (i := (117, 1, .ireturn, (0, 0, 0), 0)) (by decide +kernel)) hc_z
        obtain ⟨e113_z, e114_z⟩ := hc_z
        replace e114_z := e114_z.symm
        subst e114_z
        replace e109_z := e109_z.symm
        subst e109_z
        exact Or.inl ⟨e113_z, by rw [k0_z 0, el]; exact e108_z, h, g, _, _, A, R.2.2.1, R4, q112_z, q107_z⟩
    · have kc : ¬ rg_v g 164 8 = 0 := fun q => ka ((tk_0 R.2.2.2.2.2.2.2.2.2).2 q)
      have pl := pk.resolve_left ka
      replace hc_z := rn_iload (am_cur_of (i := (54, 2, .iload 4, (0, 0, 0), 0)) (by decide +kernel)) g4_z hc_z
      replace hc_z := rn_aload_n (am_cur_of (i := (56, 1, .aload_n 0, (0, 0, 0), 0)) (by decide +kernel)) g0_z hc_z
      replace hc_z := rn_getI (v := S) (am_cur_of (i := (57, 3, .getfield 37, (4, 5, 414), 0)) (by decide +kernel)) (by decide +kernel) ES hc_z
      replace hc_z := rn_cmp (am_cur_of (i := (60, 3, .if_icmp .ge 31, (47, 0, 0), 0)) (by decide +kernel)) hc_z
      rcases hc_z with ⟨b115_z, hc_z⟩ | ⟨b115_z, hc_z⟩
      · replace b115_z : S.toInt ≤ i.toInt := b115_z
        omega
      · replace b115_z : i.toInt < S.toInt := b115_z
        replace hc_z := rn_aload_n (am_cur_of (i := (63, 1, .aload_n 0, (0, 0, 0), 0)) (by decide +kernel)) g0_z hc_z
        replace hc_z := rn_getI (v := 0) (am_cur_of (i := (64, 3, .getfield 51, (4, 1, 408), 0)) (by decide +kernel)) (by decide +kernel) R4 hc_z
        replace hc_z := rn_ifF (am_cur_of (i := (67, 3, .ifCond .ne 24, (47, 0, 0), 0)) (by decide +kernel)) (by decide) hc_z
        replace hc_z := rn_aload_n (am_cur_of (i := (70, 1, .aload_n 0, (0, 0, 0), 0)) (by decide +kernel)) g0_z hc_z
        replace hc_z := rn_getI (v := rg_v h 44 10) (am_cur_of (i := (71, 3, .getfield 60, (4, 10, 419), 0)) (by decide +kernel)) (by decide +kernel) rfl hc_z
        replace hc_z := rn_if (am_cur_of (i := (74, 3, .ifCond .eq 17, (47, 0, 0), 0)) (by decide +kernel)) hc_z
        rcases hc_z with ⟨b116_z, hc_z⟩ | ⟨b116_z, hc_z⟩
        · replace b116_z : (rg_v h 44 10) = (0 : Int32) ∧ (rg_v h 44 10).toInt = (0 : Int32).toInt := b116_z
          exact absurd b116_z.1 ka
        · replace b116_z : ¬ (rg_v h 44 10) = (0 : Int32) ∧ ¬ (rg_v h 44 10).toInt = (0 : Int32).toInt := b116_z
          replace hc_z := rn_aload_n (am_cur_of (i := (77, 1, .aload_n 0, (0, 0, 0), 0)) (by decide +kernel)) g0_z hc_z
          replace hc_z := rn_callV (M' := am_m26) (o := 44) (ar := []) (rest := []) (L := lv_args 0 [.ref 44]) (am_cur_of (i := (78, 3, .invokevirtual 63, (26, 757, 3), 0)) (by decide +kernel)) rfl rfl rfl rfl hc_z
          obtain ⟨r117_z, h118_z, q119_z, hc_z⟩ := hc_z
          have vo := rn_void rfl q119_z
          subst vo
          replace hc_z : rn _ _ _ _ [] _ _ _ := hc_z
          replace hc_z := rn_aload_n (am_cur_of (i := (81, 1, .aload_n 0, (0, 0, 0), 0)) (by decide +kernel)) g0_z hc_z
          replace hc_z := rn_callV (M' := am_m53) (o := 44) (ar := []) (rest := []) (L := lv_args 0 [.ref 44]) (am_cur_of (i := (82, 3, .invokevirtual 66, (53, 868, 3), 0)) (by decide +kernel)) rfl rfl rfl rfl hc_z
          obtain ⟨r120_z, h121_z, q122_z, hc_z⟩ := hc_z
          have vo := rn_void rfl q122_z
          subst vo
          replace hm_z := rn_aload_n (am_cur_of (i := (55, 1, .aload_n 0, (0, 0, 0), 0)) (by decide +kernel)) g0m hm_z
          replace hm_z := rn_getI (v := rg_v g 164 8) (am_cur_of (i := (56, 3, .getfield 157, (12, 8, 1392), 0)) (by decide +kernel)) (by decide +kernel) rfl hm_z
          replace hm_z := rn_if (am_cur_of (i := (59, 3, .ifCond .eq 18, (42, 0, 0), 0)) (by decide +kernel)) hm_z
          rcases hm_z with ⟨b123_z, hm_z⟩ | ⟨b123_z, hm_z⟩
          · replace b123_z : (rg_v g 164 8) = (0 : Int32) ∧ (rg_v g 164 8).toInt = (0 : Int32).toInt := b123_z
            exact absurd b123_z.1 kc
          · replace b123_z : ¬ (rg_v g 164 8) = (0 : Int32) ∧ ¬ (rg_v g 164 8).toInt = (0 : Int32).toInt := b123_z
            replace hm_z := rn_aload_n (am_cur_of (i := (62, 1, .aload_n 0, (0, 0, 0), 0)) (by decide +kernel)) g0m hm_z
            replace hm_z := rn_callV (M' := am_m157) (o := 164) (ar := []) (rest := []) (L := lv_args 0 [.ref 164]) (am_cur_of (i := (63, 3, .invokevirtual 274, (157, 1661, 3), 0)) (by decide +kernel)) rfl rfl rfl rfl hm_z
            obtain ⟨r124_z, h125_z, q126_z, hm_z⟩ := hm_z
            have YL := (mz_line (cr_rp A) q126_z).1
            have YK := yk_of (a := 157) (by decide) rfl q126_z
            rcases ln2_z R A B ka q119_z q122_z q126_z with ⟨rfl, x2_z, p2_z, R2, pp, A2, B2, e0_z⟩ | ⟨rfl, p2_z, wv, v0_z, f1_z, f2_z, f3_z, f4_z⟩
            · have e1_z := rt_c1 i0_z (by omega)
              replace hm_z : rn _ _ _ _ [.int 1] _ _ _ := hm_z
              replace hm_z := rn_ifT (am_cur_of (i := (66, 3, .ifCond .ne 5, (40, 0, 0), 0)) (by decide +kernel)) (by decide) hm_z
              replace hm_z := rn_iinc (w := ln + 1) (am_cur_of (i := (71, 3, .iinc 2 1, (0, 0, 0), 0)) (by decide +kernel)) g2m rfl hm_z
              obtain ⟨_, s127_z, s128_z, g2m, hm_z⟩ := hm_z
              replace g0m := s127_z 0 _ (by decide) rfl g0m
              clear s127_z s128_z
              replace hm_z := rn_goto (am_cur_of (i := (74, 3, .goto (-19), (32, 0, 0), 0)) (by decide +kernel)) hm_z
              replace hc_z : rn _ _ _ _ [] _ _ _ := hc_z
              replace hc_z := rn_iinc (w := i + 1) (am_cur_of (i := (85, 3, .iinc 4 1, (0, 0, 0), 0)) (by decide +kernel)) g4_z rfl hc_z
              obtain ⟨_, s129_z, s130_z, g4_z, hc_z⟩ := hc_z
              replace g0_z := s129_z 0 _ (by decide) rfl g0_z
              clear s129_z s130_z
              replace hc_z := rn_gotoL (am_cur_of (i := (88, 3, .goto (-34), (31, 0, 0), 0)) (by decide +kernel)) hc_z
              exact ih_z (i + 1) (ln + 1) x2_z p2_z _ h121_z h125_z _ _ (by omega) (by omega) R2 A2 B2 ⟨zM_t hz_z.1 YL, yk_t hz_z.2 YK⟩ g0_z g4_z g0m g2m (by rw [e0_z, el]) hc_z hm_z
            · replace hm_z : rn _ _ _ _ [.int 0] _ _ _ := hm_z
              replace hm_z := rn_ifF (am_cur_of (i := (66, 3, .ifCond .ne 5, (40, 0, 0), 0)) (by decide +kernel)) (by decide) hm_z
              replace hm_z := rn_iconst (w := (-1)) (am_cur_of (i := (69, 1, .iconst (-1), (0, 0, 0), 0)) (by decide +kernel)) (by decide) hm_z
              replace hm_z := rn_iret (am_cur_of (i := (70, 1, .ireturn, (0, 0, 0), 0)) (by decide +kernel)) hm_z
              obtain ⟨e131_z, e132_z⟩ := hm_z
              replace e132_z := e132_z.symm
              subst e132_z
              replace hc_z : rn _ _ _ _ [] _ _ _ := hc_z
              replace hc_z := rn_iinc (w := i + 1) (am_cur_of (i := (85, 3, .iinc 4 1, (0, 0, 0), 0)) (by decide +kernel)) g4_z rfl hc_z
              obtain ⟨_, s133_z, s134_z, g4_z, hc_z⟩ := hc_z
              replace g0_z := s133_z 0 _ (by decide) rfl g0_z
              clear s133_z s134_z
              replace hc_z := rn_goto (am_cur_of (i := (88, 3, .goto (-34), (31, 0, 0), 0)) (by decide +kernel)) hc_z
              replace hc_z := rn_iload (am_cur_of (i := (54, 2, .iload 4, (0, 0, 0), 0)) (by decide +kernel)) g4_z hc_z
              replace hc_z := rn_aload_n (am_cur_of (i := (56, 1, .aload_n 0, (0, 0, 0), 0)) (by decide +kernel)) g0_z hc_z
              replace hc_z := rn_getI (v := rg_v h121_z 44 5) (am_cur_of (i := (57, 3, .getfield 37, (4, 5, 414), 0)) (by decide +kernel)) (by decide +kernel) rfl hc_z
              replace hc_z := rn_cmp (am_cur_of (i := (60, 3, .if_icmp .ge 31, (47, 0, 0), 0)) (by decide +kernel)) hc_z
              rcases hc_z with ⟨b135_z, hc_z⟩ | ⟨b135_z, hc_z⟩
              · replace b135_z : (rg_v h121_z 44 5).toInt ≤ (i + 1).toInt := b135_z
                replace hc_z := rn_aload_n (am_cur_of (i := (91, 1, .aload_n 0, (0, 0, 0), 0)) (by decide +kernel)) g0_z hc_z
                replace hc_z := rn_getI (v := wv) (am_cur_of (i := (92, 3, .getfield 51, (4, 1, 408), 0)) (by decide +kernel)) (by decide +kernel) f1_z hc_z
                replace hc_z := rn_if (am_cur_of (i := (95, 3, .ifCond .ne 10, (53, 0, 0), 0)) (by decide +kernel)) hc_z
                rcases hc_z with ⟨b136_z, hc_z⟩ | ⟨b136_z, hc_z⟩
                · replace b136_z : ¬ wv = (0 : Int32) ∧ ¬ wv.toInt = (0 : Int32).toInt := b136_z
                  replace hc_z := rn_aload_n (am_cur_of (i := (105, 1, .aload_n 0, (0, 0, 0), 0)) (by decide +kernel)) g0_z hc_z
                  replace hc_z := rn_getI (v := wv) (am_cur_of (i := (106, 3, .getfield 51, (4, 1, 408), 0)) (by decide +kernel)) (by decide +kernel) f1_z hc_z
                  replace hc_z := rn_if (am_cur_of (i := (109, 3, .ifCond .ne 7, (58, 0, 0), 0)) (by decide +kernel)) hc_z
                  rcases hc_z with ⟨b137_z, hc_z⟩ | ⟨b137_z, hc_z⟩
                  · replace b137_z : ¬ wv = (0 : Int32) ∧ ¬ wv.toInt = (0 : Int32).toInt := b137_z
                    replace hc_z := rn_iconst (w := 0) (am_cur_of (i := (116, 1, .iconst 0, (0, 0, 0), 0)) (by decide +kernel)) (by decide) hc_z
                    replace hc_z := rn_iret (am_cur_of (i := (117, 1, .ireturn, (0, 0, 0), 0)) (by decide +kernel)) hc_z
                    obtain ⟨e138_z, e139_z⟩ := hc_z
                    replace e139_z := e139_z.symm
                    subst e139_z
                    exact Or.inr ⟨e138_z, e131_z, ⟨p2_z, wv, v0_z, f1_z, f2_z, f3_z, f4_z⟩, zM_t hz_z.1 YL, yk_t hz_z.2 YK⟩
                  · replace b137_z : wv = (0 : Int32) ∧ wv.toInt = (0 : Int32).toInt := b137_z
                    exact absurd b137_z.1 v0_z
                · replace b136_z : wv = (0 : Int32) ∧ wv.toInt = (0 : Int32).toInt := b136_z
                  exact absurd b136_z.1 v0_z
              · replace b135_z : (i + 1).toInt < (rg_v h121_z 44 5).toInt := b135_z
                replace hc_z := rn_aload_n (am_cur_of (i := (63, 1, .aload_n 0, (0, 0, 0), 0)) (by decide +kernel)) g0_z hc_z
                replace hc_z := rn_getI (v := wv) (am_cur_of (i := (64, 3, .getfield 51, (4, 1, 408), 0)) (by decide +kernel)) (by decide +kernel) f1_z hc_z
                replace hc_z := rn_if (am_cur_of (i := (67, 3, .ifCond .ne 24, (47, 0, 0), 0)) (by decide +kernel)) hc_z
                rcases hc_z with ⟨b140_z, hc_z⟩ | ⟨b140_z, hc_z⟩
                · replace b140_z : ¬ wv = (0 : Int32) ∧ ¬ wv.toInt = (0 : Int32).toInt := b140_z
                  replace hc_z := rn_aload_n (am_cur_of (i := (91, 1, .aload_n 0, (0, 0, 0), 0)) (by decide +kernel)) g0_z hc_z
                  replace hc_z := rn_getI (v := wv) (am_cur_of (i := (92, 3, .getfield 51, (4, 1, 408), 0)) (by decide +kernel)) (by decide +kernel) f1_z hc_z
                  replace hc_z := rn_if (am_cur_of (i := (95, 3, .ifCond .ne 10, (53, 0, 0), 0)) (by decide +kernel)) hc_z
                  rcases hc_z with ⟨b141_z, hc_z⟩ | ⟨b141_z, hc_z⟩
                  · replace b141_z : ¬ wv = (0 : Int32) ∧ ¬ wv.toInt = (0 : Int32).toInt := b141_z
                    replace hc_z := rn_aload_n (am_cur_of (i := (105, 1, .aload_n 0, (0, 0, 0), 0)) (by decide +kernel)) g0_z hc_z
                    replace hc_z := rn_getI (v := wv) (am_cur_of (i := (106, 3, .getfield 51, (4, 1, 408), 0)) (by decide +kernel)) (by decide +kernel) f1_z hc_z
                    replace hc_z := rn_if (am_cur_of (i := (109, 3, .ifCond .ne 7, (58, 0, 0), 0)) (by decide +kernel)) hc_z
                    rcases hc_z with ⟨b142_z, hc_z⟩ | ⟨b142_z, hc_z⟩
                    · replace b142_z : ¬ wv = (0 : Int32) ∧ ¬ wv.toInt = (0 : Int32).toInt := b142_z
                      replace hc_z := rn_iconst (w := 0) (am_cur_of (i := (116, 1, .iconst 0, (0, 0, 0), 0)) (by decide +kernel)) (by decide) hc_z
                      replace hc_z := rn_iret (am_cur_of (i := (117, 1, .ireturn, (0, 0, 0), 0)) (by decide +kernel)) hc_z
                      obtain ⟨e143_z, e144_z⟩ := hc_z
                      replace e144_z := e144_z.symm
                      subst e144_z
                      exact Or.inr ⟨e143_z, e131_z, ⟨p2_z, wv, v0_z, f1_z, f2_z, f3_z, f4_z⟩, zM_t hz_z.1 YL, yk_t hz_z.2 YK⟩
                    · replace b142_z : wv = (0 : Int32) ∧ wv.toInt = (0 : Int32).toInt := b142_z
                      exact absurd b142_z.1 v0_z
                  · replace b141_z : wv = (0 : Int32) ∧ wv.toInt = (0 : Int32).toInt := b141_z
                    exact absurd b141_z.1 v0_z
                · replace b140_z : wv = (0 : Int32) ∧ wv.toInt = (0 : Int32).toInt := b140_z
                  exact absurd b140_z.1 v0_z
theorem tl23_z {T : Nat → Int32} {S : Int32} {gz h' g' : am_H} {r r' : Option Value} : ∀ (m : Nat) (i ln x p : Int32) (n' : Nat) (h g : am_H) (ls ls2_z : am_L), 0 ≤ i.toInt → i.toInt ≤ p.toInt → rq T S x p 23 h g → rp 23 h g → rp_t h g → (zM gz g ∧ yk gz g) → am_get ls 0 = some (.ref 44) → am_get ls 4 = some (.int i) → am_get ls2_z 0 = some (.ref 164) → am_get ls2_z 2 = some (.int ln) → rg_v h 44 0 = ln → rn m am_m18 31 ls [] h r h' → rn n' am_m150 32 ls2_z [] g r' g' → tl_Q 23 gz h' g' r r' := by
  intro m
  induction m with
  | zero => intro i ln x p n' h g ls ls2_z i0_z ip R A B hz_z g0_z g4_z g0m g2m el hc_z hm_z; exact absurd hc_z rn_0
  | succ m ih_z =>
    intro i ln x p n' h g ls ls2_z i0_z ip R A B hz_z g0_z g4_z g0m g2m el hc_z hm_z
    have xS := R.1.2.2.2.2.1
    have S7 := R.1.2.2.2.2.2.1
    have p0_z := R.2.2.2.2.2.2.1
    have px := R.2.2.2.2.2.2.2.1
    have pk := R.2.2.2.2.2.2.2.2.1
    have R4 := R.2.2.2.1
    have ES : rg_v h 44 5 = S := R.1.2.1
    have z0_z : (0 : Int32).toInt = 0 := by decide
    by_cases ka : rg_v h 44 10 = 0
    · have kc := (tk_0 R.2.2.2.2.2.2.2.2.2).1 ka
      replace hc_z := rn_iload (am_cur_of (i := (54, 2, .iload 4, (0, 0, 0), 0)) (by decide +kernel)) g4_z hc_z
      replace hc_z := rn_aload_n (am_cur_of (i := (56, 1, .aload_n 0, (0, 0, 0), 0)) (by decide +kernel)) g0_z hc_z
      replace hc_z := rn_getI (v := S) (am_cur_of (i := (57, 3, .getfield 37, (4, 5, 414), 0)) (by decide +kernel)) (by decide +kernel) ES hc_z
      replace hc_z := rn_cmp (am_cur_of (i := (60, 3, .if_icmp .ge 31, (47, 0, 0), 0)) (by decide +kernel)) hc_z
      rcases hc_z with ⟨b145_z, hc_z⟩ | ⟨b145_z, hc_z⟩
      · replace b145_z : S.toInt ≤ i.toInt := b145_z
        replace hm_z := rn_aload_n (am_cur_of (i := (55, 1, .aload_n 0, (0, 0, 0), 0)) (by decide +kernel)) g0m hm_z
        replace hm_z := rn_getI (v := 0) (am_cur_of (i := (56, 3, .getfield 157, (12, 8, 1392), 0)) (by decide +kernel)) (by decide +kernel) kc hm_z
        replace hm_z := rn_ifT (am_cur_of (i := (59, 3, .ifCond .eq 18, (42, 0, 0), 0)) (by decide +kernel)) (by decide) hm_z
        replace hm_z := rn_aload_n (am_cur_of (i := (77, 1, .aload_n 0, (0, 0, 0), 0)) (by decide +kernel)) g0m hm_z
        replace hm_z := rn_callV (M' := am_m144) (o := 164) (ar := []) (rest := []) (L := lv_args 0 [.ref 164]) (am_cur_of (i := (78, 3, .invokevirtual 136, (144, 1361, 3), 0)) (by decide +kernel)) rfl rfl rfl rfl hm_z
        obtain ⟨r146_z, h147_z, q148_z, hm_z⟩ := hm_z
        have vo := rn_void rfl q148_z
        subst vo
        replace hm_z : rn _ _ _ _ [] _ _ _ := hm_z
        replace hm_z := rn_iload_n (am_cur_of (i := (81, 1, .iload_n 2, (0, 0, 0), 0)) (by decide +kernel)) g2m hm_z
        replace hm_z := rn_iret (am_cur_of (i := (82, 1, .ireturn, (0, 0, 0), 0)) (by decide +kernel)) hm_z
        obtain ⟨e149_z, e150_z⟩ := hm_z
        replace hc_z := rn_aload_n (am_cur_of (i := (91, 1, .aload_n 0, (0, 0, 0), 0)) (by decide +kernel)) g0_z hc_z
        replace hc_z := rn_getI (v := 0) (am_cur_of (i := (92, 3, .getfield 51, (4, 1, 408), 0)) (by decide +kernel)) (by decide +kernel) R4 hc_z
        replace hc_z := rn_ifF (am_cur_of (i := (95, 3, .ifCond .ne 10, (53, 0, 0), 0)) (by decide +kernel)) (by decide) hc_z
        replace hc_z := rn_aload_n (am_cur_of (i := (98, 1, .aload_n 0, (0, 0, 0), 0)) (by decide +kernel)) g0_z hc_z
        replace hc_z := rn_getM (x := 23) (am_cur_of (i := (99, 3, .getfield 25, (4, 6, 415), 0)) (by decide +kernel)) R.2.2.1 hc_z
        replace hc_z := rn_callV (M' := am_m54) (o := 23) (ar := []) (rest := []) (L := lv_args 0 [.ref 23]) (am_cur_of (i := (102, 3, .invokevirtual 69, (54, 872, 3), 0)) (by decide +kernel)) rfl rfl rfl rfl hc_z
        obtain ⟨r151_z, h152_z, q153_z, hc_z⟩ := hc_z
        have vo := rn_void rfl q153_z
        subst vo
        have k0_z := rf_v4 (a := 54) (by decide) rfl q153_z
        replace hc_z : rn _ _ _ _ [] _ _ _ := hc_z
        replace hc_z := rn_aload_n (am_cur_of (i := (105, 1, .aload_n 0, (0, 0, 0), 0)) (by decide +kernel)) g0_z hc_z
        replace hc_z := rn_getI (v := 0) (am_cur_of (i := (106, 3, .getfield 51, (4, 1, 408), 0)) (by decide +kernel)) (by decide +kernel) ((k0_z 1).trans R4) hc_z
        replace hc_z := rn_ifF (am_cur_of (i := (109, 3, .ifCond .ne 7, (58, 0, 0), 0)) (by decide +kernel)) (by decide) hc_z
        replace hc_z := rn_iconst (w := 1) (am_cur_of (i := (112, 1, .iconst 1, (0, 0, 0), 0)) (by decide +kernel)) (by decide) hc_z
        replace hc_z := rn_goto (am_cur_of (i := (113, 3, .goto 4, (59, 0, 0), 0)) (by decide +kernel)) hc_z
        replace hc_z := rn_iret (am_cur_of (i := (117, 1, .ireturn, (0, 0, 0), 0)) (by decide +kernel)) hc_z
        obtain ⟨e154_z, e155_z⟩ := hc_z
        replace e155_z := e155_z.symm
        subst e155_z
        replace e150_z := e150_z.symm
        subst e150_z
        exact Or.inl ⟨e154_z, by rw [k0_z 0, el]; exact e149_z, h, g, _, _, A, R.2.2.1, R4, q153_z, q148_z⟩
      · replace b145_z : i.toInt < S.toInt := b145_z
        replace hc_z := rn_aload_n (am_cur_of (i := (63, 1, .aload_n 0, (0, 0, 0), 0)) (by decide +kernel)) g0_z hc_z
        replace hc_z := rn_getI (v := 0) (am_cur_of (i := (64, 3, .getfield 51, (4, 1, 408), 0)) (by decide +kernel)) (by decide +kernel) R4 hc_z
        replace hc_z := rn_ifF (am_cur_of (i := (67, 3, .ifCond .ne 24, (47, 0, 0), 0)) (by decide +kernel)) (by decide) hc_z
        replace hc_z := rn_aload_n (am_cur_of (i := (70, 1, .aload_n 0, (0, 0, 0), 0)) (by decide +kernel)) g0_z hc_z
        replace hc_z := rn_getI (v := 0) (am_cur_of (i := (71, 3, .getfield 60, (4, 10, 419), 0)) (by decide +kernel)) (by decide +kernel) ka hc_z
        replace hc_z := rn_ifT (am_cur_of (i := (74, 3, .ifCond .eq 17, (47, 0, 0), 0)) (by decide +kernel)) (by decide) hc_z
        replace hm_z := rn_aload_n (am_cur_of (i := (55, 1, .aload_n 0, (0, 0, 0), 0)) (by decide +kernel)) g0m hm_z
        replace hm_z := rn_getI (v := 0) (am_cur_of (i := (56, 3, .getfield 157, (12, 8, 1392), 0)) (by decide +kernel)) (by decide +kernel) kc hm_z
        replace hm_z := rn_ifT (am_cur_of (i := (59, 3, .ifCond .eq 18, (42, 0, 0), 0)) (by decide +kernel)) (by decide) hm_z
        replace hm_z := rn_aload_n (am_cur_of (i := (77, 1, .aload_n 0, (0, 0, 0), 0)) (by decide +kernel)) g0m hm_z
        replace hm_z := rn_callV (M' := am_m144) (o := 164) (ar := []) (rest := []) (L := lv_args 0 [.ref 164]) (am_cur_of (i := (78, 3, .invokevirtual 136, (144, 1361, 3), 0)) (by decide +kernel)) rfl rfl rfl rfl hm_z
        obtain ⟨r156_z, h157_z, q158_z, hm_z⟩ := hm_z
        have vo := rn_void rfl q158_z
        subst vo
        replace hm_z : rn _ _ _ _ [] _ _ _ := hm_z
        replace hm_z := rn_iload_n (am_cur_of (i := (81, 1, .iload_n 2, (0, 0, 0), 0)) (by decide +kernel)) g2m hm_z
        replace hm_z := rn_iret (am_cur_of (i := (82, 1, .ireturn, (0, 0, 0), 0)) (by decide +kernel)) hm_z
        obtain ⟨e159_z, e160_z⟩ := hm_z
        replace hc_z := rn_aload_n (am_cur_of (i := (91, 1, .aload_n 0, (0, 0, 0), 0)) (by decide +kernel)) g0_z hc_z
        replace hc_z := rn_getI (v := 0) (am_cur_of (i := (92, 3, .getfield 51, (4, 1, 408), 0)) (by decide +kernel)) (by decide +kernel) R4 hc_z
        replace hc_z := rn_ifF (am_cur_of (i := (95, 3, .ifCond .ne 10, (53, 0, 0), 0)) (by decide +kernel)) (by decide) hc_z
        replace hc_z := rn_aload_n (am_cur_of (i := (98, 1, .aload_n 0, (0, 0, 0), 0)) (by decide +kernel)) g0_z hc_z
        replace hc_z := rn_getM (x := 23) (am_cur_of (i := (99, 3, .getfield 25, (4, 6, 415), 0)) (by decide +kernel)) R.2.2.1 hc_z
        replace hc_z := rn_callV (M' := am_m54) (o := 23) (ar := []) (rest := []) (L := lv_args 0 [.ref 23]) (am_cur_of (i := (102, 3, .invokevirtual 69, (54, 872, 3), 0)) (by decide +kernel)) rfl rfl rfl rfl hc_z
        obtain ⟨r161_z, h162_z, q163_z, hc_z⟩ := hc_z
        have vo := rn_void rfl q163_z
        subst vo
        have k0_z := rf_v4 (a := 54) (by decide) rfl q163_z
        replace hc_z : rn _ _ _ _ [] _ _ _ := hc_z
        replace hc_z := rn_aload_n (am_cur_of (i := (105, 1, .aload_n 0, (0, 0, 0), 0)) (by decide +kernel)) g0_z hc_z
        replace hc_z := rn_getI (v := 0) (am_cur_of (i := (106, 3, .getfield 51, (4, 1, 408), 0)) (by decide +kernel)) (by decide +kernel) ((k0_z 1).trans R4) hc_z
        replace hc_z := rn_ifF (am_cur_of (i := (109, 3, .ifCond .ne 7, (58, 0, 0), 0)) (by decide +kernel)) (by decide) hc_z
        replace hc_z := rn_iconst (w := 1) (am_cur_of (i := (112, 1, .iconst 1, (0, 0, 0), 0)) (by decide +kernel)) (by decide) hc_z
        replace hc_z := rn_goto (am_cur_of (i := (113, 3, .goto 4, (59, 0, 0), 0)) (by decide +kernel)) hc_z
        replace hc_z := rn_iret (am_cur_of (i := (117, 1, .ireturn, (0, 0, 0), 0)) (by decide +kernel)) hc_z
        obtain ⟨e164_z, e165_z⟩ := hc_z
        replace e165_z := e165_z.symm
        subst e165_z
        replace e160_z := e160_z.symm
        subst e160_z
        exact Or.inl ⟨e164_z, by rw [k0_z 0, el]; exact e159_z, h, g, _, _, A, R.2.2.1, R4, q163_z, q158_z⟩
    · have kc : ¬ rg_v g 164 8 = 0 := fun q => ka ((tk_0 R.2.2.2.2.2.2.2.2.2).2 q)
      have pl := pk.resolve_left ka
      replace hc_z := rn_iload (am_cur_of (i := (54, 2, .iload 4, (0, 0, 0), 0)) (by decide +kernel)) g4_z hc_z
      replace hc_z := rn_aload_n (am_cur_of (i := (56, 1, .aload_n 0, (0, 0, 0), 0)) (by decide +kernel)) g0_z hc_z
      replace hc_z := rn_getI (v := S) (am_cur_of (i := (57, 3, .getfield 37, (4, 5, 414), 0)) (by decide +kernel)) (by decide +kernel) ES hc_z
      replace hc_z := rn_cmp (am_cur_of (i := (60, 3, .if_icmp .ge 31, (47, 0, 0), 0)) (by decide +kernel)) hc_z
      rcases hc_z with ⟨b166_z, hc_z⟩ | ⟨b166_z, hc_z⟩
      · replace b166_z : S.toInt ≤ i.toInt := b166_z
        omega
      · replace b166_z : i.toInt < S.toInt := b166_z
        replace hc_z := rn_aload_n (am_cur_of (i := (63, 1, .aload_n 0, (0, 0, 0), 0)) (by decide +kernel)) g0_z hc_z
        replace hc_z := rn_getI (v := 0) (am_cur_of (i := (64, 3, .getfield 51, (4, 1, 408), 0)) (by decide +kernel)) (by decide +kernel) R4 hc_z
        replace hc_z := rn_ifF (am_cur_of (i := (67, 3, .ifCond .ne 24, (47, 0, 0), 0)) (by decide +kernel)) (by decide) hc_z
        replace hc_z := rn_aload_n (am_cur_of (i := (70, 1, .aload_n 0, (0, 0, 0), 0)) (by decide +kernel)) g0_z hc_z
        replace hc_z := rn_getI (v := rg_v h 44 10) (am_cur_of (i := (71, 3, .getfield 60, (4, 10, 419), 0)) (by decide +kernel)) (by decide +kernel) rfl hc_z
        replace hc_z := rn_if (am_cur_of (i := (74, 3, .ifCond .eq 17, (47, 0, 0), 0)) (by decide +kernel)) hc_z
        rcases hc_z with ⟨b167_z, hc_z⟩ | ⟨b167_z, hc_z⟩
        · replace b167_z : (rg_v h 44 10) = (0 : Int32) ∧ (rg_v h 44 10).toInt = (0 : Int32).toInt := b167_z
          exact absurd b167_z.1 ka
        · replace b167_z : ¬ (rg_v h 44 10) = (0 : Int32) ∧ ¬ (rg_v h 44 10).toInt = (0 : Int32).toInt := b167_z
          replace hc_z := rn_aload_n (am_cur_of (i := (77, 1, .aload_n 0, (0, 0, 0), 0)) (by decide +kernel)) g0_z hc_z
          replace hc_z := rn_callV (M' := am_m26) (o := 44) (ar := []) (rest := []) (L := lv_args 0 [.ref 44]) (am_cur_of (i := (78, 3, .invokevirtual 63, (26, 757, 3), 0)) (by decide +kernel)) rfl rfl rfl rfl hc_z
          obtain ⟨r168_z, h169_z, q170_z, hc_z⟩ := hc_z
          have vo := rn_void rfl q170_z
          subst vo
          replace hc_z : rn _ _ _ _ [] _ _ _ := hc_z
          replace hc_z := rn_aload_n (am_cur_of (i := (81, 1, .aload_n 0, (0, 0, 0), 0)) (by decide +kernel)) g0_z hc_z
          replace hc_z := rn_callV (M' := am_m53) (o := 44) (ar := []) (rest := []) (L := lv_args 0 [.ref 44]) (am_cur_of (i := (82, 3, .invokevirtual 66, (53, 868, 3), 0)) (by decide +kernel)) rfl rfl rfl rfl hc_z
          obtain ⟨r171_z, h172_z, q173_z, hc_z⟩ := hc_z
          have vo := rn_void rfl q173_z
          subst vo
          replace hm_z := rn_aload_n (am_cur_of (i := (55, 1, .aload_n 0, (0, 0, 0), 0)) (by decide +kernel)) g0m hm_z
          replace hm_z := rn_getI (v := rg_v g 164 8) (am_cur_of (i := (56, 3, .getfield 157, (12, 8, 1392), 0)) (by decide +kernel)) (by decide +kernel) rfl hm_z
          replace hm_z := rn_if (am_cur_of (i := (59, 3, .ifCond .eq 18, (42, 0, 0), 0)) (by decide +kernel)) hm_z
          rcases hm_z with ⟨b174_z, hm_z⟩ | ⟨b174_z, hm_z⟩
          · replace b174_z : (rg_v g 164 8) = (0 : Int32) ∧ (rg_v g 164 8).toInt = (0 : Int32).toInt := b174_z
            exact absurd b174_z.1 kc
          · replace b174_z : ¬ (rg_v g 164 8) = (0 : Int32) ∧ ¬ (rg_v g 164 8).toInt = (0 : Int32).toInt := b174_z
            replace hm_z := rn_aload_n (am_cur_of (i := (62, 1, .aload_n 0, (0, 0, 0), 0)) (by decide +kernel)) g0m hm_z
            replace hm_z := rn_callV (M' := am_m157) (o := 164) (ar := []) (rest := []) (L := lv_args 0 [.ref 164]) (am_cur_of (i := (63, 3, .invokevirtual 274, (157, 1661, 3), 0)) (by decide +kernel)) rfl rfl rfl rfl hm_z
            obtain ⟨r175_z, h176_z, q177_z, hm_z⟩ := hm_z
            have YL := (mz_line (cr_rp A) q177_z).1
            have YK := yk_of (a := 157) (by decide) rfl q177_z
            rcases ln23_z R A B ka q170_z q173_z q177_z with ⟨rfl, x2_z, p2_z, R2, pp, A2, B2, e0_z⟩ | ⟨rfl, p2_z, wv, v0_z, f1_z, f2_z, f3_z, f4_z⟩
            · have e1_z := rt_c1 i0_z (by omega)
              replace hm_z : rn _ _ _ _ [.int 1] _ _ _ := hm_z
              replace hm_z := rn_ifT (am_cur_of (i := (66, 3, .ifCond .ne 5, (40, 0, 0), 0)) (by decide +kernel)) (by decide) hm_z
              replace hm_z := rn_iinc (w := ln + 1) (am_cur_of (i := (71, 3, .iinc 2 1, (0, 0, 0), 0)) (by decide +kernel)) g2m rfl hm_z
              obtain ⟨_, s178_z, s179_z, g2m, hm_z⟩ := hm_z
              replace g0m := s178_z 0 _ (by decide) rfl g0m
              clear s178_z s179_z
              replace hm_z := rn_goto (am_cur_of (i := (74, 3, .goto (-19), (32, 0, 0), 0)) (by decide +kernel)) hm_z
              replace hc_z : rn _ _ _ _ [] _ _ _ := hc_z
              replace hc_z := rn_iinc (w := i + 1) (am_cur_of (i := (85, 3, .iinc 4 1, (0, 0, 0), 0)) (by decide +kernel)) g4_z rfl hc_z
              obtain ⟨_, s180_z, s181_z, g4_z, hc_z⟩ := hc_z
              replace g0_z := s180_z 0 _ (by decide) rfl g0_z
              clear s180_z s181_z
              replace hc_z := rn_gotoL (am_cur_of (i := (88, 3, .goto (-34), (31, 0, 0), 0)) (by decide +kernel)) hc_z
              exact ih_z (i + 1) (ln + 1) x2_z p2_z _ h172_z h176_z _ _ (by omega) (by omega) R2 A2 B2 ⟨zM_t hz_z.1 YL, yk_t hz_z.2 YK⟩ g0_z g4_z g0m g2m (by rw [e0_z, el]) hc_z hm_z
            · replace hm_z : rn _ _ _ _ [.int 0] _ _ _ := hm_z
              replace hm_z := rn_ifF (am_cur_of (i := (66, 3, .ifCond .ne 5, (40, 0, 0), 0)) (by decide +kernel)) (by decide) hm_z
              replace hm_z := rn_iconst (w := (-1)) (am_cur_of (i := (69, 1, .iconst (-1), (0, 0, 0), 0)) (by decide +kernel)) (by decide) hm_z
              replace hm_z := rn_iret (am_cur_of (i := (70, 1, .ireturn, (0, 0, 0), 0)) (by decide +kernel)) hm_z
              obtain ⟨e182_z, e183_z⟩ := hm_z
              replace e183_z := e183_z.symm
              subst e183_z
              replace hc_z : rn _ _ _ _ [] _ _ _ := hc_z
              replace hc_z := rn_iinc (w := i + 1) (am_cur_of (i := (85, 3, .iinc 4 1, (0, 0, 0), 0)) (by decide +kernel)) g4_z rfl hc_z
              obtain ⟨_, s184_z, s185_z, g4_z, hc_z⟩ := hc_z
              replace g0_z := s184_z 0 _ (by decide) rfl g0_z
              clear s184_z s185_z
              replace hc_z := rn_goto (am_cur_of (i := (88, 3, .goto (-34), (31, 0, 0), 0)) (by decide +kernel)) hc_z
              replace hc_z := rn_iload (am_cur_of (i := (54, 2, .iload 4, (0, 0, 0), 0)) (by decide +kernel)) g4_z hc_z
              replace hc_z := rn_aload_n (am_cur_of (i := (56, 1, .aload_n 0, (0, 0, 0), 0)) (by decide +kernel)) g0_z hc_z
              replace hc_z := rn_getI (v := rg_v h172_z 44 5) (am_cur_of (i := (57, 3, .getfield 37, (4, 5, 414), 0)) (by decide +kernel)) (by decide +kernel) rfl hc_z
              replace hc_z := rn_cmp (am_cur_of (i := (60, 3, .if_icmp .ge 31, (47, 0, 0), 0)) (by decide +kernel)) hc_z
              rcases hc_z with ⟨b186_z, hc_z⟩ | ⟨b186_z, hc_z⟩
              · replace b186_z : (rg_v h172_z 44 5).toInt ≤ (i + 1).toInt := b186_z
                replace hc_z := rn_aload_n (am_cur_of (i := (91, 1, .aload_n 0, (0, 0, 0), 0)) (by decide +kernel)) g0_z hc_z
                replace hc_z := rn_getI (v := wv) (am_cur_of (i := (92, 3, .getfield 51, (4, 1, 408), 0)) (by decide +kernel)) (by decide +kernel) f1_z hc_z
                replace hc_z := rn_if (am_cur_of (i := (95, 3, .ifCond .ne 10, (53, 0, 0), 0)) (by decide +kernel)) hc_z
                rcases hc_z with ⟨b187_z, hc_z⟩ | ⟨b187_z, hc_z⟩
                · replace b187_z : ¬ wv = (0 : Int32) ∧ ¬ wv.toInt = (0 : Int32).toInt := b187_z
                  replace hc_z := rn_aload_n (am_cur_of (i := (105, 1, .aload_n 0, (0, 0, 0), 0)) (by decide +kernel)) g0_z hc_z
                  replace hc_z := rn_getI (v := wv) (am_cur_of (i := (106, 3, .getfield 51, (4, 1, 408), 0)) (by decide +kernel)) (by decide +kernel) f1_z hc_z
                  replace hc_z := rn_if (am_cur_of (i := (109, 3, .ifCond .ne 7, (58, 0, 0), 0)) (by decide +kernel)) hc_z
                  rcases hc_z with ⟨b188_z, hc_z⟩ | ⟨b188_z, hc_z⟩
                  · replace b188_z : ¬ wv = (0 : Int32) ∧ ¬ wv.toInt = (0 : Int32).toInt := b188_z
                    replace hc_z := rn_iconst (w := 0) (am_cur_of (i := (116, 1, .iconst 0, (0, 0, 0), 0)) (by decide +kernel)) (by decide) hc_z
                    replace hc_z := rn_iret (am_cur_of (i := (117, 1, .ireturn, (0, 0, 0), 0)) (by decide +kernel)) hc_z
                    obtain ⟨e189_z, e190_z⟩ := hc_z
                    replace e190_z := e190_z.symm
                    subst e190_z
                    exact Or.inr ⟨e189_z, e182_z, ⟨p2_z, wv, v0_z, f1_z, f2_z, f3_z, f4_z⟩, zM_t hz_z.1 YL, yk_t hz_z.2 YK⟩
                  · replace b188_z : wv = (0 : Int32) ∧ wv.toInt = (0 : Int32).toInt := b188_z
                    exact absurd b188_z.1 v0_z
                · replace b187_z : wv = (0 : Int32) ∧ wv.toInt = (0 : Int32).toInt := b187_z
                  exact absurd b187_z.1 v0_z
              · replace b186_z : (i + 1).toInt < (rg_v h172_z 44 5).toInt := b186_z
                replace hc_z := rn_aload_n (am_cur_of (i := (63, 1, .aload_n 0, (0, 0, 0), 0)) (by decide +kernel)) g0_z hc_z
                replace hc_z := rn_getI (v := wv) (am_cur_of (i := (64, 3, .getfield 51, (4, 1, 408), 0)) (by decide +kernel)) (by decide +kernel) f1_z hc_z
                replace hc_z := rn_if (am_cur_of (i := (67, 3, .ifCond .ne 24, (47, 0, 0), 0)) (by decide +kernel)) hc_z
                rcases hc_z with ⟨b191_z, hc_z⟩ | ⟨b191_z, hc_z⟩
                · replace b191_z : ¬ wv = (0 : Int32) ∧ ¬ wv.toInt = (0 : Int32).toInt := b191_z
                  replace hc_z := rn_aload_n (am_cur_of (i := (91, 1, .aload_n 0, (0, 0, 0), 0)) (by decide +kernel)) g0_z hc_z
                  replace hc_z := rn_getI (v := wv) (am_cur_of (i := (92, 3, .getfield 51, (4, 1, 408), 0)) (by decide +kernel)) (by decide +kernel) f1_z hc_z
                  replace hc_z := rn_if (am_cur_of (i := (95, 3, .ifCond .ne 10, (53, 0, 0), 0)) (by decide +kernel)) hc_z
                  rcases hc_z with ⟨b192_z, hc_z⟩ | ⟨b192_z, hc_z⟩
                  · replace b192_z : ¬ wv = (0 : Int32) ∧ ¬ wv.toInt = (0 : Int32).toInt := b192_z
                    replace hc_z := rn_aload_n (am_cur_of (i := (105, 1, .aload_n 0, (0, 0, 0), 0)) (by decide +kernel)) g0_z hc_z
                    replace hc_z := rn_getI (v := wv) (am_cur_of (i := (106, 3, .getfield 51, (4, 1, 408), 0)) (by decide +kernel)) (by decide +kernel) f1_z hc_z
                    replace hc_z := rn_if (am_cur_of (i := (109, 3, .ifCond .ne 7, (58, 0, 0), 0)) (by decide +kernel)) hc_z
                    rcases hc_z with ⟨b193_z, hc_z⟩ | ⟨b193_z, hc_z⟩
                    · replace b193_z : ¬ wv = (0 : Int32) ∧ ¬ wv.toInt = (0 : Int32).toInt := b193_z
                      replace hc_z := rn_iconst (w := 0) (am_cur_of (i := (116, 1, .iconst 0, (0, 0, 0), 0)) (by decide +kernel)) (by decide) hc_z
                      replace hc_z := rn_iret (am_cur_of (i := (117, 1, .ireturn, (0, 0, 0), 0)) (by decide +kernel)) hc_z
                      obtain ⟨e194_z, e195_z⟩ := hc_z
                      replace e195_z := e195_z.symm
                      subst e195_z
                      exact Or.inr ⟨e194_z, e182_z, ⟨p2_z, wv, v0_z, f1_z, f2_z, f3_z, f4_z⟩, zM_t hz_z.1 YL, yk_t hz_z.2 YK⟩
                    · replace b193_z : wv = (0 : Int32) ∧ wv.toInt = (0 : Int32).toInt := b193_z
                      exact absurd b193_z.1 v0_z
                  · replace b192_z : wv = (0 : Int32) ∧ wv.toInt = (0 : Int32).toInt := b192_z
                    exact absurd b192_z.1 v0_z
                · replace b191_z : wv = (0 : Int32) ∧ wv.toInt = (0 : Int32).toInt := b191_z
                  exact absurd b191_z.1 v0_z
theorem tx_c5_2 {n : Nat} {h h' : am_H} {r : Option Value}   (hc_z : rn n am_m5 0 (lv_args 0 [.ref 11]) [] h r h') : (r = none ∧ h' = (am_up (am_up (am_up (am_up (am_up (am_up (am_up (am_up (am_up (am_up (am_up h 11 0 (.int 0)) 11 1 (.int 0)) 14 0 (.int 0)) 15 0 (.int 0)) 16 0 (.int 0)) 14 1 (.int 0)) 15 1 (.int 0)) 16 1 (.int 0)) 14 2 (.int 0)) 15 2 (.int 0)) 16 2 (.int 0))) := by
  have g0_z : am_get (lv_args 0 [.ref 11]) 0 = some (.ref 11) := rfl
  replace hc_z := rn_aload_n (am_cur_of (i := (0, 1, .aload_n 0, (0, 0, 0), 0)) (by decide +kernel)) g0_z hc_z
  replace hc_z := rn_iconst (w := 0) (am_cur_of (i := (1, 1, .iconst 0, (0, 0, 0), 0)) (by decide +kernel)) (by decide) hc_z
  replace hc_z := rn_put (am_cur_of (i := (2, 3, .putfield 35, (2, 0, 163), 0)) (by decide +kernel)) (by decide +kernel) hc_z
  replace hc_z := rn_aload_n (am_cur_of (i := (5, 1, .aload_n 0, (0, 0, 0), 0)) (by decide +kernel)) g0_z hc_z
  replace hc_z := rn_iconst (w := 0) (am_cur_of (i := (6, 1, .iconst 0, (0, 0, 0), 0)) (by decide +kernel)) (by decide) hc_z
  replace hc_z := rn_put (am_cur_of (i := (7, 3, .putfield 39, (2, 1, 166), 0)) (by decide +kernel)) (by decide +kernel) hc_z
  replace hc_z := rn_iconst (w := 0) (am_cur_of (i := (10, 1, .iconst 0, (0, 0, 0), 0)) (by decide +kernel)) (by decide) hc_z
  replace hc_z := rn_istore_n (am_cur_of (i := (11, 1, .istore_n 1, (0, 0, 0), 0)) (by decide +kernel)) hc_z
  obtain ⟨_, s196_z, s197_z, g1_z, hc_z⟩ := hc_z
  replace g0_z := s196_z 0 _ (by decide) rfl g0_z
  clear s196_z s197_z
  replace hc_z := rn_iload_n (am_cur_of (i := (12, 1, .iload_n 1, (0, 0, 0), 0)) (by decide +kernel)) g1_z hc_z
  replace hc_z := rn_iconst (w := 2) (am_cur_of (i := (13, 1, .iconst 2, (0, 0, 0), 0)) (by decide +kernel)) (by decide) hc_z
  replace hc_z := rn_cmpF (am_cur_of (i := (14, 3, .if_icmp .gt 30, (28, 0, 0), 0)) (by decide +kernel)) (by decide) hc_z
  replace hc_z := rn_aload_n (am_cur_of (i := (17, 1, .aload_n 0, (0, 0, 0), 0)) (by decide +kernel)) g0_z hc_z
  replace hc_z := rn_getR (x := 14) (am_cur_of (i := (18, 3, .getfield 18, (2, 4, 169), 0)) (by decide +kernel)) (by decide +kernel) hc_z
  replace hc_z := rn_iload_n (am_cur_of (i := (21, 1, .iload_n 1, (0, 0, 0), 0)) (by decide +kernel)) g1_z hc_z
  replace hc_z := rn_iconst (w := 0) (am_cur_of (i := (22, 1, .iconst 0, (0, 0, 0), 0)) (by decide +kernel)) (by decide) hc_z
  replace hc_z := rn_iastore (N := 3) (q := 0) (am_cur_of (i := (23, 1, .iastore, (0, 0, 0), 0)) (by decide +kernel)) (by decide +kernel) rfl hc_z
  obtain ⟨p198_z, hc_z⟩ := hc_z
  replace hc_z := rn_aload_n (am_cur_of (i := (24, 1, .aload_n 0, (0, 0, 0), 0)) (by decide +kernel)) g0_z hc_z
  replace hc_z := rn_getR (x := 15) (am_cur_of (i := (25, 3, .getfield 21, (2, 5, 170), 0)) (by decide +kernel)) (by decide +kernel) hc_z
  replace hc_z := rn_iload_n (am_cur_of (i := (28, 1, .iload_n 1, (0, 0, 0), 0)) (by decide +kernel)) g1_z hc_z
  replace hc_z := rn_iconst (w := 0) (am_cur_of (i := (29, 1, .iconst 0, (0, 0, 0), 0)) (by decide +kernel)) (by decide) hc_z
  replace hc_z := rn_iastore (N := 3) (q := 0) (am_cur_of (i := (30, 1, .iastore, (0, 0, 0), 0)) (by decide +kernel)) (by decide +kernel) rfl hc_z
  obtain ⟨p199_z, hc_z⟩ := hc_z
  replace hc_z := rn_aload_n (am_cur_of (i := (31, 1, .aload_n 0, (0, 0, 0), 0)) (by decide +kernel)) g0_z hc_z
  replace hc_z := rn_getR (x := 16) (am_cur_of (i := (32, 3, .getfield 24, (2, 6, 171), 0)) (by decide +kernel)) (by decide +kernel) hc_z
  replace hc_z := rn_iload_n (am_cur_of (i := (35, 1, .iload_n 1, (0, 0, 0), 0)) (by decide +kernel)) g1_z hc_z
  replace hc_z := rn_iconst (w := 0) (am_cur_of (i := (36, 1, .iconst 0, (0, 0, 0), 0)) (by decide +kernel)) (by decide) hc_z
  replace hc_z := rn_bastore (N := 3) (q := 0) (am_cur_of (i := (37, 1, .bastore, (0, 0, 0), 0)) (by decide +kernel)) (by decide +kernel) rfl hc_z
  obtain ⟨p200_z, hc_z⟩ := hc_z
  replace hc_z := rn_iinc (w := 1) (am_cur_of (i := (38, 3, .iinc 1 1, (0, 0, 0), 0)) (by decide +kernel)) g1_z (by decide) hc_z
  obtain ⟨_, s201_z, s202_z, g1_z, hc_z⟩ := hc_z
  replace g0_z := s201_z 0 _ (by decide) rfl g0_z
  clear s201_z s202_z
  replace hc_z := rn_goto (am_cur_of (i := (41, 3, .goto (-29), (8, 0, 0), 0)) (by decide +kernel)) hc_z
  replace hc_z := rn_iload_n (am_cur_of (i := (12, 1, .iload_n 1, (0, 0, 0), 0)) (by decide +kernel)) g1_z hc_z
  replace hc_z := rn_iconst (w := 2) (am_cur_of (i := (13, 1, .iconst 2, (0, 0, 0), 0)) (by decide +kernel)) (by decide) hc_z
  replace hc_z := rn_cmpF (am_cur_of (i := (14, 3, .if_icmp .gt 30, (28, 0, 0), 0)) (by decide +kernel)) (by decide) hc_z
  replace hc_z := rn_aload_n (am_cur_of (i := (17, 1, .aload_n 0, (0, 0, 0), 0)) (by decide +kernel)) g0_z hc_z
  replace hc_z := rn_getR (x := 14) (am_cur_of (i := (18, 3, .getfield 18, (2, 4, 169), 0)) (by decide +kernel)) (by decide +kernel) hc_z
  replace hc_z := rn_iload_n (am_cur_of (i := (21, 1, .iload_n 1, (0, 0, 0), 0)) (by decide +kernel)) g1_z hc_z
  replace hc_z := rn_iconst (w := 0) (am_cur_of (i := (22, 1, .iconst 0, (0, 0, 0), 0)) (by decide +kernel)) (by decide) hc_z
  replace hc_z := rn_iastore (N := 3) (q := 1) (am_cur_of (i := (23, 1, .iastore, (0, 0, 0), 0)) (by decide +kernel)) (by decide +kernel) rfl hc_z
  obtain ⟨p203_z, hc_z⟩ := hc_z
  replace hc_z := rn_aload_n (am_cur_of (i := (24, 1, .aload_n 0, (0, 0, 0), 0)) (by decide +kernel)) g0_z hc_z
  replace hc_z := rn_getR (x := 15) (am_cur_of (i := (25, 3, .getfield 21, (2, 5, 170), 0)) (by decide +kernel)) (by decide +kernel) hc_z
  replace hc_z := rn_iload_n (am_cur_of (i := (28, 1, .iload_n 1, (0, 0, 0), 0)) (by decide +kernel)) g1_z hc_z
  replace hc_z := rn_iconst (w := 0) (am_cur_of (i := (29, 1, .iconst 0, (0, 0, 0), 0)) (by decide +kernel)) (by decide) hc_z
  replace hc_z := rn_iastore (N := 3) (q := 1) (am_cur_of (i := (30, 1, .iastore, (0, 0, 0), 0)) (by decide +kernel)) (by decide +kernel) rfl hc_z
  obtain ⟨p204_z, hc_z⟩ := hc_z
  replace hc_z := rn_aload_n (am_cur_of (i := (31, 1, .aload_n 0, (0, 0, 0), 0)) (by decide +kernel)) g0_z hc_z
  replace hc_z := rn_getR (x := 16) (am_cur_of (i := (32, 3, .getfield 24, (2, 6, 171), 0)) (by decide +kernel)) (by decide +kernel) hc_z
  replace hc_z := rn_iload_n (am_cur_of (i := (35, 1, .iload_n 1, (0, 0, 0), 0)) (by decide +kernel)) g1_z hc_z
  replace hc_z := rn_iconst (w := 0) (am_cur_of (i := (36, 1, .iconst 0, (0, 0, 0), 0)) (by decide +kernel)) (by decide) hc_z
  replace hc_z := rn_bastore (N := 3) (q := 1) (am_cur_of (i := (37, 1, .bastore, (0, 0, 0), 0)) (by decide +kernel)) (by decide +kernel) rfl hc_z
  obtain ⟨p205_z, hc_z⟩ := hc_z
  replace hc_z := rn_iinc (w := 2) (am_cur_of (i := (38, 3, .iinc 1 1, (0, 0, 0), 0)) (by decide +kernel)) g1_z (by decide) hc_z
  obtain ⟨_, s206_z, s207_z, g1_z, hc_z⟩ := hc_z
  replace g0_z := s206_z 0 _ (by decide) rfl g0_z
  clear s206_z s207_z
  replace hc_z := rn_goto (am_cur_of (i := (41, 3, .goto (-29), (8, 0, 0), 0)) (by decide +kernel)) hc_z
  replace hc_z := rn_iload_n (am_cur_of (i := (12, 1, .iload_n 1, (0, 0, 0), 0)) (by decide +kernel)) g1_z hc_z
  replace hc_z := rn_iconst (w := 2) (am_cur_of (i := (13, 1, .iconst 2, (0, 0, 0), 0)) (by decide +kernel)) (by decide) hc_z
  replace hc_z := rn_cmpF (am_cur_of (i := (14, 3, .if_icmp .gt 30, (28, 0, 0), 0)) (by decide +kernel)) (by decide) hc_z
  replace hc_z := rn_aload_n (am_cur_of (i := (17, 1, .aload_n 0, (0, 0, 0), 0)) (by decide +kernel)) g0_z hc_z
  replace hc_z := rn_getR (x := 14) (am_cur_of (i := (18, 3, .getfield 18, (2, 4, 169), 0)) (by decide +kernel)) (by decide +kernel) hc_z
  replace hc_z := rn_iload_n (am_cur_of (i := (21, 1, .iload_n 1, (0, 0, 0), 0)) (by decide +kernel)) g1_z hc_z
  replace hc_z := rn_iconst (w := 0) (am_cur_of (i := (22, 1, .iconst 0, (0, 0, 0), 0)) (by decide +kernel)) (by decide) hc_z
  replace hc_z := rn_iastore (N := 3) (q := 2) (am_cur_of (i := (23, 1, .iastore, (0, 0, 0), 0)) (by decide +kernel)) (by decide +kernel) rfl hc_z
  obtain ⟨p208_z, hc_z⟩ := hc_z
  replace hc_z := rn_aload_n (am_cur_of (i := (24, 1, .aload_n 0, (0, 0, 0), 0)) (by decide +kernel)) g0_z hc_z
  replace hc_z := rn_getR (x := 15) (am_cur_of (i := (25, 3, .getfield 21, (2, 5, 170), 0)) (by decide +kernel)) (by decide +kernel) hc_z
  replace hc_z := rn_iload_n (am_cur_of (i := (28, 1, .iload_n 1, (0, 0, 0), 0)) (by decide +kernel)) g1_z hc_z
  replace hc_z := rn_iconst (w := 0) (am_cur_of (i := (29, 1, .iconst 0, (0, 0, 0), 0)) (by decide +kernel)) (by decide) hc_z
  replace hc_z := rn_iastore (N := 3) (q := 2) (am_cur_of (i := (30, 1, .iastore, (0, 0, 0), 0)) (by decide +kernel)) (by decide +kernel) rfl hc_z
  obtain ⟨p209_z, hc_z⟩ := hc_z
  replace hc_z := rn_aload_n (am_cur_of (i := (31, 1, .aload_n 0, (0, 0, 0), 0)) (by decide +kernel)) g0_z hc_z
  replace hc_z := rn_getR (x := 16) (am_cur_of (i := (32, 3, .getfield 24, (2, 6, 171), 0)) (by decide +kernel)) (by decide +kernel) hc_z
  replace hc_z := rn_iload_n (am_cur_of (i := (35, 1, .iload_n 1, (0, 0, 0), 0)) (by decide +kernel)) g1_z hc_z
  replace hc_z := rn_iconst (w := 0) (am_cur_of (i := (36, 1, .iconst 0, (0, 0, 0), 0)) (by decide +kernel)) (by decide) hc_z
  replace hc_z := rn_bastore (N := 3) (q := 2) (am_cur_of (i := (37, 1, .bastore, (0, 0, 0), 0)) (by decide +kernel)) (by decide +kernel) rfl hc_z
  obtain ⟨p210_z, hc_z⟩ := hc_z
  replace hc_z := rn_iinc (w := 3) (am_cur_of (i := (38, 3, .iinc 1 1, (0, 0, 0), 0)) (by decide +kernel)) g1_z (by decide) hc_z
  obtain ⟨_, s211_z, s212_z, g1_z, hc_z⟩ := hc_z
  replace g0_z := s211_z 0 _ (by decide) rfl g0_z
  clear s211_z s212_z
  replace hc_z := rn_goto (am_cur_of (i := (41, 3, .goto (-29), (8, 0, 0), 0)) (by decide +kernel)) hc_z
  replace hc_z := rn_iload_n (am_cur_of (i := (12, 1, .iload_n 1, (0, 0, 0), 0)) (by decide +kernel)) g1_z hc_z
  replace hc_z := rn_iconst (w := 2) (am_cur_of (i := (13, 1, .iconst 2, (0, 0, 0), 0)) (by decide +kernel)) (by decide) hc_z
  replace hc_z := rn_cmpT (am_cur_of (i := (14, 3, .if_icmp .gt 30, (28, 0, 0), 0)) (by decide +kernel)) (by decide) hc_z
  replace hc_z := rn_vret (am_cur_of (i := (44, 1, .return_, (0, 0, 0), 0)) (by decide +kernel)) hc_z
  obtain ⟨e213_z, e214_z⟩ := hc_z
  exact ⟨e213_z, e214_z⟩
theorem tx_c4_2 {n : Nat} {h h' : am_H} {r : Option Value}   (hc_z : rn n am_m4 0 (lv_args 0 [.ref 2]) [] h r h') : (r = none ∧ h' = (am_up (am_up (am_up (am_up (am_up (am_up (am_up (am_up (am_up (am_up (am_up (am_up (am_up (am_up (am_up (am_up (am_up (am_up (am_up (am_up (am_up (am_up h 2 0 (.int 500)) 2 1 (.int 0)) 2 2 (.int 0)) 2 4 (.int 0)) 2 7 (.int 0)) 2 8 (.int 0)) 2 9 (.int 0)) 2 12 (.int 0)) 2 16 (.int 0)) 2 17 (.int 0)) 2 18 (.int (-1))) 11 0 (.int 0)) 11 1 (.int 0)) 14 0 (.int 0)) 15 0 (.int 0)) 16 0 (.int 0)) 14 1 (.int 0)) 15 1 (.int 0)) 16 1 (.int 0)) 14 2 (.int 0)) 15 2 (.int 0)) 16 2 (.int 0))) := by
  have g0_z : am_get (lv_args 0 [.ref 2]) 0 = some (.ref 2) := rfl
  replace hc_z := rn_aload_n (am_cur_of (i := (0, 1, .aload_n 0, (0, 0, 0), 0)) (by decide +kernel)) g0_z hc_z
  replace hc_z := rn_sipush (w := 500) (am_cur_of (i := (1, 3, .sipush 500, (0, 0, 0), 0)) (by decide +kernel)) (by decide) hc_z
  replace hc_z := rn_put (am_cur_of (i := (4, 3, .putfield 50, (1, 0, 248), 0)) (by decide +kernel)) (by decide +kernel) hc_z
  replace hc_z := rn_aload_n (am_cur_of (i := (7, 1, .aload_n 0, (0, 0, 0), 0)) (by decide +kernel)) g0_z hc_z
  replace hc_z := rn_iconst (w := 0) (am_cur_of (i := (8, 1, .iconst 0, (0, 0, 0), 0)) (by decide +kernel)) (by decide) hc_z
  replace hc_z := rn_put (am_cur_of (i := (9, 3, .putfield 54, (1, 1, 253), 0)) (by decide +kernel)) (by decide +kernel) hc_z
  replace hc_z := rn_aload_n (am_cur_of (i := (12, 1, .aload_n 0, (0, 0, 0), 0)) (by decide +kernel)) g0_z hc_z
  replace hc_z := rn_iconst (w := 0) (am_cur_of (i := (13, 1, .iconst 0, (0, 0, 0), 0)) (by decide +kernel)) (by decide) hc_z
  replace hc_z := rn_put (am_cur_of (i := (14, 3, .putfield 57, (1, 2, 256), 0)) (by decide +kernel)) (by decide +kernel) hc_z
  replace hc_z := rn_aload_n (am_cur_of (i := (17, 1, .aload_n 0, (0, 0, 0), 0)) (by decide +kernel)) g0_z hc_z
  replace hc_z := rn_iconst (w := 0) (am_cur_of (i := (18, 1, .iconst 0, (0, 0, 0), 0)) (by decide +kernel)) (by decide) hc_z
  replace hc_z := rn_put (am_cur_of (i := (19, 3, .putfield 60, (1, 4, 266), 0)) (by decide +kernel)) (by decide +kernel) hc_z
  replace hc_z := rn_aload_n (am_cur_of (i := (22, 1, .aload_n 0, (0, 0, 0), 0)) (by decide +kernel)) g0_z hc_z
  replace hc_z := rn_iconst (w := 0) (am_cur_of (i := (23, 1, .iconst 0, (0, 0, 0), 0)) (by decide +kernel)) (by decide) hc_z
  replace hc_z := rn_put (am_cur_of (i := (24, 3, .putfield 63, (1, 7, 276), 0)) (by decide +kernel)) (by decide +kernel) hc_z
  replace hc_z := rn_aload_n (am_cur_of (i := (27, 1, .aload_n 0, (0, 0, 0), 0)) (by decide +kernel)) g0_z hc_z
  replace hc_z := rn_iconst (w := 0) (am_cur_of (i := (28, 1, .iconst 0, (0, 0, 0), 0)) (by decide +kernel)) (by decide) hc_z
  replace hc_z := rn_put (am_cur_of (i := (29, 3, .putfield 66, (1, 8, 280), 0)) (by decide +kernel)) (by decide +kernel) hc_z
  replace hc_z := rn_aload_n (am_cur_of (i := (32, 1, .aload_n 0, (0, 0, 0), 0)) (by decide +kernel)) g0_z hc_z
  replace hc_z := rn_iconst (w := 0) (am_cur_of (i := (33, 1, .iconst 0, (0, 0, 0), 0)) (by decide +kernel)) (by decide) hc_z
  replace hc_z := rn_put (am_cur_of (i := (34, 3, .putfield 69, (1, 9, 284), 0)) (by decide +kernel)) (by decide +kernel) hc_z
  replace hc_z := rn_aload_n (am_cur_of (i := (37, 1, .aload_n 0, (0, 0, 0), 0)) (by decide +kernel)) g0_z hc_z
  replace hc_z := rn_iconst (w := 0) (am_cur_of (i := (38, 1, .iconst 0, (0, 0, 0), 0)) (by decide +kernel)) (by decide) hc_z
  replace hc_z := rn_put (am_cur_of (i := (39, 3, .putfield 72, (1, 12, 294), 0)) (by decide +kernel)) (by decide +kernel) hc_z
  replace hc_z := rn_aload_n (am_cur_of (i := (42, 1, .aload_n 0, (0, 0, 0), 0)) (by decide +kernel)) g0_z hc_z
  replace hc_z := rn_iconst (w := 0) (am_cur_of (i := (43, 1, .iconst 0, (0, 0, 0), 0)) (by decide +kernel)) (by decide) hc_z
  replace hc_z := rn_put (am_cur_of (i := (44, 3, .putfield 75, (1, 16, 306), 0)) (by decide +kernel)) (by decide +kernel) hc_z
  replace hc_z := rn_aload_n (am_cur_of (i := (47, 1, .aload_n 0, (0, 0, 0), 0)) (by decide +kernel)) g0_z hc_z
  replace hc_z := rn_iconst (w := 0) (am_cur_of (i := (48, 1, .iconst 0, (0, 0, 0), 0)) (by decide +kernel)) (by decide) hc_z
  replace hc_z := rn_put (am_cur_of (i := (49, 3, .putfield 78, (1, 17, 309), 0)) (by decide +kernel)) (by decide +kernel) hc_z
  replace hc_z := rn_aload_n (am_cur_of (i := (52, 1, .aload_n 0, (0, 0, 0), 0)) (by decide +kernel)) g0_z hc_z
  replace hc_z := rn_iconst (w := (-1)) (am_cur_of (i := (53, 1, .iconst (-1), (0, 0, 0), 0)) (by decide +kernel)) (by decide) hc_z
  replace hc_z := rn_put (am_cur_of (i := (54, 3, .putfield 81, (1, 18, 312), 0)) (by decide +kernel)) (by decide +kernel) hc_z
  replace hc_z := rn_aload_n (am_cur_of (i := (57, 1, .aload_n 0, (0, 0, 0), 0)) (by decide +kernel)) g0_z hc_z
  replace hc_z := rn_getR (x := 11) (am_cur_of (i := (58, 3, .getfield 42, (1, 19, 314), 0)) (by decide +kernel)) (by decide +kernel) hc_z
  replace hc_z := rn_callV (M' := am_m5) (o := 11) (ar := []) (rest := []) (L := lv_args 0 [.ref 11]) (am_cur_of (i := (61, 3, .invokevirtual 84, (5, 244, 3), 0)) (by decide +kernel)) rfl rfl rfl rfl hc_z
  obtain ⟨r234_z, h235_z, q236_z, hc_z⟩ := hc_z
  rcases tx_c5_2 q236_z with ⟨rfl, y237_z⟩
  replace y237_z := y237_z.symm
  subst y237_z
  replace hc_z : rn _ _ _ _ [] _ _ _ := hc_z
  replace hc_z := rn_vret (am_cur_of (i := (64, 1, .return_, (0, 0, 0), 0)) (by decide +kernel)) hc_z
  obtain ⟨e238_z, e239_z⟩ := hc_z
  exact ⟨e238_z, e239_z⟩
theorem tx_c5_23 {n : Nat} {h h' : am_H} {r : Option Value}   (hc_z : rn n am_m5 0 (lv_args 0 [.ref 32]) [] h r h') : (r = none ∧ h' = (am_up (am_up (am_up (am_up (am_up (am_up (am_up (am_up (am_up (am_up (am_up h 32 0 (.int 0)) 32 1 (.int 0)) 35 0 (.int 0)) 36 0 (.int 0)) 37 0 (.int 0)) 35 1 (.int 0)) 36 1 (.int 0)) 37 1 (.int 0)) 35 2 (.int 0)) 36 2 (.int 0)) 37 2 (.int 0))) := by
  have g0_z : am_get (lv_args 0 [.ref 32]) 0 = some (.ref 32) := rfl
  replace hc_z := rn_aload_n (am_cur_of (i := (0, 1, .aload_n 0, (0, 0, 0), 0)) (by decide +kernel)) g0_z hc_z
  replace hc_z := rn_iconst (w := 0) (am_cur_of (i := (1, 1, .iconst 0, (0, 0, 0), 0)) (by decide +kernel)) (by decide) hc_z
  replace hc_z := rn_put (am_cur_of (i := (2, 3, .putfield 35, (2, 0, 163), 0)) (by decide +kernel)) (by decide +kernel) hc_z
  replace hc_z := rn_aload_n (am_cur_of (i := (5, 1, .aload_n 0, (0, 0, 0), 0)) (by decide +kernel)) g0_z hc_z
  replace hc_z := rn_iconst (w := 0) (am_cur_of (i := (6, 1, .iconst 0, (0, 0, 0), 0)) (by decide +kernel)) (by decide) hc_z
  replace hc_z := rn_put (am_cur_of (i := (7, 3, .putfield 39, (2, 1, 166), 0)) (by decide +kernel)) (by decide +kernel) hc_z
  replace hc_z := rn_iconst (w := 0) (am_cur_of (i := (10, 1, .iconst 0, (0, 0, 0), 0)) (by decide +kernel)) (by decide) hc_z
  replace hc_z := rn_istore_n (am_cur_of (i := (11, 1, .istore_n 1, (0, 0, 0), 0)) (by decide +kernel)) hc_z
  obtain ⟨_, s215_z, s216_z, g1_z, hc_z⟩ := hc_z
  replace g0_z := s215_z 0 _ (by decide) rfl g0_z
  clear s215_z s216_z
  replace hc_z := rn_iload_n (am_cur_of (i := (12, 1, .iload_n 1, (0, 0, 0), 0)) (by decide +kernel)) g1_z hc_z
  replace hc_z := rn_iconst (w := 2) (am_cur_of (i := (13, 1, .iconst 2, (0, 0, 0), 0)) (by decide +kernel)) (by decide) hc_z
  replace hc_z := rn_cmpF (am_cur_of (i := (14, 3, .if_icmp .gt 30, (28, 0, 0), 0)) (by decide +kernel)) (by decide) hc_z
  replace hc_z := rn_aload_n (am_cur_of (i := (17, 1, .aload_n 0, (0, 0, 0), 0)) (by decide +kernel)) g0_z hc_z
  replace hc_z := rn_getR (x := 35) (am_cur_of (i := (18, 3, .getfield 18, (2, 4, 169), 0)) (by decide +kernel)) (by decide +kernel) hc_z
  replace hc_z := rn_iload_n (am_cur_of (i := (21, 1, .iload_n 1, (0, 0, 0), 0)) (by decide +kernel)) g1_z hc_z
  replace hc_z := rn_iconst (w := 0) (am_cur_of (i := (22, 1, .iconst 0, (0, 0, 0), 0)) (by decide +kernel)) (by decide) hc_z
  replace hc_z := rn_iastore (N := 3) (q := 0) (am_cur_of (i := (23, 1, .iastore, (0, 0, 0), 0)) (by decide +kernel)) (by decide +kernel) rfl hc_z
  obtain ⟨p217_z, hc_z⟩ := hc_z
  replace hc_z := rn_aload_n (am_cur_of (i := (24, 1, .aload_n 0, (0, 0, 0), 0)) (by decide +kernel)) g0_z hc_z
  replace hc_z := rn_getR (x := 36) (am_cur_of (i := (25, 3, .getfield 21, (2, 5, 170), 0)) (by decide +kernel)) (by decide +kernel) hc_z
  replace hc_z := rn_iload_n (am_cur_of (i := (28, 1, .iload_n 1, (0, 0, 0), 0)) (by decide +kernel)) g1_z hc_z
  replace hc_z := rn_iconst (w := 0) (am_cur_of (i := (29, 1, .iconst 0, (0, 0, 0), 0)) (by decide +kernel)) (by decide) hc_z
  replace hc_z := rn_iastore (N := 3) (q := 0) (am_cur_of (i := (30, 1, .iastore, (0, 0, 0), 0)) (by decide +kernel)) (by decide +kernel) rfl hc_z
  obtain ⟨p218_z, hc_z⟩ := hc_z
  replace hc_z := rn_aload_n (am_cur_of (i := (31, 1, .aload_n 0, (0, 0, 0), 0)) (by decide +kernel)) g0_z hc_z
  replace hc_z := rn_getR (x := 37) (am_cur_of (i := (32, 3, .getfield 24, (2, 6, 171), 0)) (by decide +kernel)) (by decide +kernel) hc_z
  replace hc_z := rn_iload_n (am_cur_of (i := (35, 1, .iload_n 1, (0, 0, 0), 0)) (by decide +kernel)) g1_z hc_z
  replace hc_z := rn_iconst (w := 0) (am_cur_of (i := (36, 1, .iconst 0, (0, 0, 0), 0)) (by decide +kernel)) (by decide) hc_z
  replace hc_z := rn_bastore (N := 3) (q := 0) (am_cur_of (i := (37, 1, .bastore, (0, 0, 0), 0)) (by decide +kernel)) (by decide +kernel) rfl hc_z
  obtain ⟨p219_z, hc_z⟩ := hc_z
  replace hc_z := rn_iinc (w := 1) (am_cur_of (i := (38, 3, .iinc 1 1, (0, 0, 0), 0)) (by decide +kernel)) g1_z (by decide) hc_z
  obtain ⟨_, s220_z, s221_z, g1_z, hc_z⟩ := hc_z
  replace g0_z := s220_z 0 _ (by decide) rfl g0_z
  clear s220_z s221_z
  replace hc_z := rn_goto (am_cur_of (i := (41, 3, .goto (-29), (8, 0, 0), 0)) (by decide +kernel)) hc_z
  replace hc_z := rn_iload_n (am_cur_of (i := (12, 1, .iload_n 1, (0, 0, 0), 0)) (by decide +kernel)) g1_z hc_z
  replace hc_z := rn_iconst (w := 2) (am_cur_of (i := (13, 1, .iconst 2, (0, 0, 0), 0)) (by decide +kernel)) (by decide) hc_z
  replace hc_z := rn_cmpF (am_cur_of (i := (14, 3, .if_icmp .gt 30, (28, 0, 0), 0)) (by decide +kernel)) (by decide) hc_z
  replace hc_z := rn_aload_n (am_cur_of (i := (17, 1, .aload_n 0, (0, 0, 0), 0)) (by decide +kernel)) g0_z hc_z
  replace hc_z := rn_getR (x := 35) (am_cur_of (i := (18, 3, .getfield 18, (2, 4, 169), 0)) (by decide +kernel)) (by decide +kernel) hc_z
  replace hc_z := rn_iload_n (am_cur_of (i := (21, 1, .iload_n 1, (0, 0, 0), 0)) (by decide +kernel)) g1_z hc_z
  replace hc_z := rn_iconst (w := 0) (am_cur_of (i := (22, 1, .iconst 0, (0, 0, 0), 0)) (by decide +kernel)) (by decide) hc_z
  replace hc_z := rn_iastore (N := 3) (q := 1) (am_cur_of (i := (23, 1, .iastore, (0, 0, 0), 0)) (by decide +kernel)) (by decide +kernel) rfl hc_z
  obtain ⟨p222_z, hc_z⟩ := hc_z
  replace hc_z := rn_aload_n (am_cur_of (i := (24, 1, .aload_n 0, (0, 0, 0), 0)) (by decide +kernel)) g0_z hc_z
  replace hc_z := rn_getR (x := 36) (am_cur_of (i := (25, 3, .getfield 21, (2, 5, 170), 0)) (by decide +kernel)) (by decide +kernel) hc_z
  replace hc_z := rn_iload_n (am_cur_of (i := (28, 1, .iload_n 1, (0, 0, 0), 0)) (by decide +kernel)) g1_z hc_z
  replace hc_z := rn_iconst (w := 0) (am_cur_of (i := (29, 1, .iconst 0, (0, 0, 0), 0)) (by decide +kernel)) (by decide) hc_z
  replace hc_z := rn_iastore (N := 3) (q := 1) (am_cur_of (i := (30, 1, .iastore, (0, 0, 0), 0)) (by decide +kernel)) (by decide +kernel) rfl hc_z
  obtain ⟨p223_z, hc_z⟩ := hc_z
  replace hc_z := rn_aload_n (am_cur_of (i := (31, 1, .aload_n 0, (0, 0, 0), 0)) (by decide +kernel)) g0_z hc_z
  replace hc_z := rn_getR (x := 37) (am_cur_of (i := (32, 3, .getfield 24, (2, 6, 171), 0)) (by decide +kernel)) (by decide +kernel) hc_z
  replace hc_z := rn_iload_n (am_cur_of (i := (35, 1, .iload_n 1, (0, 0, 0), 0)) (by decide +kernel)) g1_z hc_z
  replace hc_z := rn_iconst (w := 0) (am_cur_of (i := (36, 1, .iconst 0, (0, 0, 0), 0)) (by decide +kernel)) (by decide) hc_z
  replace hc_z := rn_bastore (N := 3) (q := 1) (am_cur_of (i := (37, 1, .bastore, (0, 0, 0), 0)) (by decide +kernel)) (by decide +kernel) rfl hc_z
  obtain ⟨p224_z, hc_z⟩ := hc_z
  replace hc_z := rn_iinc (w := 2) (am_cur_of (i := (38, 3, .iinc 1 1, (0, 0, 0), 0)) (by decide +kernel)) g1_z (by decide) hc_z
  obtain ⟨_, s225_z, s226_z, g1_z, hc_z⟩ := hc_z
  replace g0_z := s225_z 0 _ (by decide) rfl g0_z
  clear s225_z s226_z
  replace hc_z := rn_goto (am_cur_of (i := (41, 3, .goto (-29), (8, 0, 0), 0)) (by decide +kernel)) hc_z
  replace hc_z := rn_iload_n (am_cur_of (i := (12, 1, .iload_n 1, (0, 0, 0), 0)) (by decide +kernel)) g1_z hc_z
  replace hc_z := rn_iconst (w := 2) (am_cur_of (i := (13, 1, .iconst 2, (0, 0, 0), 0)) (by decide +kernel)) (by decide) hc_z
  replace hc_z := rn_cmpF (am_cur_of (i := (14, 3, .if_icmp .gt 30, (28, 0, 0), 0)) (by decide +kernel)) (by decide) hc_z
  replace hc_z := rn_aload_n (am_cur_of (i := (17, 1, .aload_n 0, (0, 0, 0), 0)) (by decide +kernel)) g0_z hc_z
  replace hc_z := rn_getR (x := 35) (am_cur_of (i := (18, 3, .getfield 18, (2, 4, 169), 0)) (by decide +kernel)) (by decide +kernel) hc_z
  replace hc_z := rn_iload_n (am_cur_of (i := (21, 1, .iload_n 1, (0, 0, 0), 0)) (by decide +kernel)) g1_z hc_z
  replace hc_z := rn_iconst (w := 0) (am_cur_of (i := (22, 1, .iconst 0, (0, 0, 0), 0)) (by decide +kernel)) (by decide) hc_z
  replace hc_z := rn_iastore (N := 3) (q := 2) (am_cur_of (i := (23, 1, .iastore, (0, 0, 0), 0)) (by decide +kernel)) (by decide +kernel) rfl hc_z
  obtain ⟨p227_z, hc_z⟩ := hc_z
  replace hc_z := rn_aload_n (am_cur_of (i := (24, 1, .aload_n 0, (0, 0, 0), 0)) (by decide +kernel)) g0_z hc_z
  replace hc_z := rn_getR (x := 36) (am_cur_of (i := (25, 3, .getfield 21, (2, 5, 170), 0)) (by decide +kernel)) (by decide +kernel) hc_z
  replace hc_z := rn_iload_n (am_cur_of (i := (28, 1, .iload_n 1, (0, 0, 0), 0)) (by decide +kernel)) g1_z hc_z
  replace hc_z := rn_iconst (w := 0) (am_cur_of (i := (29, 1, .iconst 0, (0, 0, 0), 0)) (by decide +kernel)) (by decide) hc_z
  replace hc_z := rn_iastore (N := 3) (q := 2) (am_cur_of (i := (30, 1, .iastore, (0, 0, 0), 0)) (by decide +kernel)) (by decide +kernel) rfl hc_z
  obtain ⟨p228_z, hc_z⟩ := hc_z
  replace hc_z := rn_aload_n (am_cur_of (i := (31, 1, .aload_n 0, (0, 0, 0), 0)) (by decide +kernel)) g0_z hc_z
  replace hc_z := rn_getR (x := 37) (am_cur_of (i := (32, 3, .getfield 24, (2, 6, 171), 0)) (by decide +kernel)) (by decide +kernel) hc_z
  replace hc_z := rn_iload_n (am_cur_of (i := (35, 1, .iload_n 1, (0, 0, 0), 0)) (by decide +kernel)) g1_z hc_z
  replace hc_z := rn_iconst (w := 0) (am_cur_of (i := (36, 1, .iconst 0, (0, 0, 0), 0)) (by decide +kernel)) (by decide) hc_z
  replace hc_z := rn_bastore (N := 3) (q := 2) (am_cur_of (i := (37, 1, .bastore, (0, 0, 0), 0)) (by decide +kernel)) (by decide +kernel) rfl hc_z
  obtain ⟨p229_z, hc_z⟩ := hc_z
  replace hc_z := rn_iinc (w := 3) (am_cur_of (i := (38, 3, .iinc 1 1, (0, 0, 0), 0)) (by decide +kernel)) g1_z (by decide) hc_z
  obtain ⟨_, s230_z, s231_z, g1_z, hc_z⟩ := hc_z
  replace g0_z := s230_z 0 _ (by decide) rfl g0_z
  clear s230_z s231_z
  replace hc_z := rn_goto (am_cur_of (i := (41, 3, .goto (-29), (8, 0, 0), 0)) (by decide +kernel)) hc_z
  replace hc_z := rn_iload_n (am_cur_of (i := (12, 1, .iload_n 1, (0, 0, 0), 0)) (by decide +kernel)) g1_z hc_z
  replace hc_z := rn_iconst (w := 2) (am_cur_of (i := (13, 1, .iconst 2, (0, 0, 0), 0)) (by decide +kernel)) (by decide) hc_z
  replace hc_z := rn_cmpT (am_cur_of (i := (14, 3, .if_icmp .gt 30, (28, 0, 0), 0)) (by decide +kernel)) (by decide) hc_z
  replace hc_z := rn_vret (am_cur_of (i := (44, 1, .return_, (0, 0, 0), 0)) (by decide +kernel)) hc_z
  obtain ⟨e232_z, e233_z⟩ := hc_z
  exact ⟨e232_z, e233_z⟩
theorem tx_c4_23 {n : Nat} {h h' : am_H} {r : Option Value}   (hc_z : rn n am_m4 0 (lv_args 0 [.ref 23]) [] h r h') : (r = none ∧ h' = (am_up (am_up (am_up (am_up (am_up (am_up (am_up (am_up (am_up (am_up (am_up (am_up (am_up (am_up (am_up (am_up (am_up (am_up (am_up (am_up (am_up (am_up h 23 0 (.int 500)) 23 1 (.int 0)) 23 2 (.int 0)) 23 4 (.int 0)) 23 7 (.int 0)) 23 8 (.int 0)) 23 9 (.int 0)) 23 12 (.int 0)) 23 16 (.int 0)) 23 17 (.int 0)) 23 18 (.int (-1))) 32 0 (.int 0)) 32 1 (.int 0)) 35 0 (.int 0)) 36 0 (.int 0)) 37 0 (.int 0)) 35 1 (.int 0)) 36 1 (.int 0)) 37 1 (.int 0)) 35 2 (.int 0)) 36 2 (.int 0)) 37 2 (.int 0))) := by
  have g0_z : am_get (lv_args 0 [.ref 23]) 0 = some (.ref 23) := rfl
  replace hc_z := rn_aload_n (am_cur_of (i := (0, 1, .aload_n 0, (0, 0, 0), 0)) (by decide +kernel)) g0_z hc_z
  replace hc_z := rn_sipush (w := 500) (am_cur_of (i := (1, 3, .sipush 500, (0, 0, 0), 0)) (by decide +kernel)) (by decide) hc_z
  replace hc_z := rn_put (am_cur_of (i := (4, 3, .putfield 50, (1, 0, 248), 0)) (by decide +kernel)) (by decide +kernel) hc_z
  replace hc_z := rn_aload_n (am_cur_of (i := (7, 1, .aload_n 0, (0, 0, 0), 0)) (by decide +kernel)) g0_z hc_z
  replace hc_z := rn_iconst (w := 0) (am_cur_of (i := (8, 1, .iconst 0, (0, 0, 0), 0)) (by decide +kernel)) (by decide) hc_z
  replace hc_z := rn_put (am_cur_of (i := (9, 3, .putfield 54, (1, 1, 253), 0)) (by decide +kernel)) (by decide +kernel) hc_z
  replace hc_z := rn_aload_n (am_cur_of (i := (12, 1, .aload_n 0, (0, 0, 0), 0)) (by decide +kernel)) g0_z hc_z
  replace hc_z := rn_iconst (w := 0) (am_cur_of (i := (13, 1, .iconst 0, (0, 0, 0), 0)) (by decide +kernel)) (by decide) hc_z
  replace hc_z := rn_put (am_cur_of (i := (14, 3, .putfield 57, (1, 2, 256), 0)) (by decide +kernel)) (by decide +kernel) hc_z
  replace hc_z := rn_aload_n (am_cur_of (i := (17, 1, .aload_n 0, (0, 0, 0), 0)) (by decide +kernel)) g0_z hc_z
  replace hc_z := rn_iconst (w := 0) (am_cur_of (i := (18, 1, .iconst 0, (0, 0, 0), 0)) (by decide +kernel)) (by decide) hc_z
  replace hc_z := rn_put (am_cur_of (i := (19, 3, .putfield 60, (1, 4, 266), 0)) (by decide +kernel)) (by decide +kernel) hc_z
  replace hc_z := rn_aload_n (am_cur_of (i := (22, 1, .aload_n 0, (0, 0, 0), 0)) (by decide +kernel)) g0_z hc_z
  replace hc_z := rn_iconst (w := 0) (am_cur_of (i := (23, 1, .iconst 0, (0, 0, 0), 0)) (by decide +kernel)) (by decide) hc_z
  replace hc_z := rn_put (am_cur_of (i := (24, 3, .putfield 63, (1, 7, 276), 0)) (by decide +kernel)) (by decide +kernel) hc_z
  replace hc_z := rn_aload_n (am_cur_of (i := (27, 1, .aload_n 0, (0, 0, 0), 0)) (by decide +kernel)) g0_z hc_z
  replace hc_z := rn_iconst (w := 0) (am_cur_of (i := (28, 1, .iconst 0, (0, 0, 0), 0)) (by decide +kernel)) (by decide) hc_z
  replace hc_z := rn_put (am_cur_of (i := (29, 3, .putfield 66, (1, 8, 280), 0)) (by decide +kernel)) (by decide +kernel) hc_z
  replace hc_z := rn_aload_n (am_cur_of (i := (32, 1, .aload_n 0, (0, 0, 0), 0)) (by decide +kernel)) g0_z hc_z
  replace hc_z := rn_iconst (w := 0) (am_cur_of (i := (33, 1, .iconst 0, (0, 0, 0), 0)) (by decide +kernel)) (by decide) hc_z
  replace hc_z := rn_put (am_cur_of (i := (34, 3, .putfield 69, (1, 9, 284), 0)) (by decide +kernel)) (by decide +kernel) hc_z
  replace hc_z := rn_aload_n (am_cur_of (i := (37, 1, .aload_n 0, (0, 0, 0), 0)) (by decide +kernel)) g0_z hc_z
  replace hc_z := rn_iconst (w := 0) (am_cur_of (i := (38, 1, .iconst 0, (0, 0, 0), 0)) (by decide +kernel)) (by decide) hc_z
  replace hc_z := rn_put (am_cur_of (i := (39, 3, .putfield 72, (1, 12, 294), 0)) (by decide +kernel)) (by decide +kernel) hc_z
  replace hc_z := rn_aload_n (am_cur_of (i := (42, 1, .aload_n 0, (0, 0, 0), 0)) (by decide +kernel)) g0_z hc_z
  replace hc_z := rn_iconst (w := 0) (am_cur_of (i := (43, 1, .iconst 0, (0, 0, 0), 0)) (by decide +kernel)) (by decide) hc_z
  replace hc_z := rn_put (am_cur_of (i := (44, 3, .putfield 75, (1, 16, 306), 0)) (by decide +kernel)) (by decide +kernel) hc_z
  replace hc_z := rn_aload_n (am_cur_of (i := (47, 1, .aload_n 0, (0, 0, 0), 0)) (by decide +kernel)) g0_z hc_z
  replace hc_z := rn_iconst (w := 0) (am_cur_of (i := (48, 1, .iconst 0, (0, 0, 0), 0)) (by decide +kernel)) (by decide) hc_z
  replace hc_z := rn_put (am_cur_of (i := (49, 3, .putfield 78, (1, 17, 309), 0)) (by decide +kernel)) (by decide +kernel) hc_z
  replace hc_z := rn_aload_n (am_cur_of (i := (52, 1, .aload_n 0, (0, 0, 0), 0)) (by decide +kernel)) g0_z hc_z
  replace hc_z := rn_iconst (w := (-1)) (am_cur_of (i := (53, 1, .iconst (-1), (0, 0, 0), 0)) (by decide +kernel)) (by decide) hc_z
  replace hc_z := rn_put (am_cur_of (i := (54, 3, .putfield 81, (1, 18, 312), 0)) (by decide +kernel)) (by decide +kernel) hc_z
  replace hc_z := rn_aload_n (am_cur_of (i := (57, 1, .aload_n 0, (0, 0, 0), 0)) (by decide +kernel)) g0_z hc_z
  replace hc_z := rn_getR (x := 32) (am_cur_of (i := (58, 3, .getfield 42, (1, 19, 314), 0)) (by decide +kernel)) (by decide +kernel) hc_z
  replace hc_z := rn_callV (M' := am_m5) (o := 32) (ar := []) (rest := []) (L := lv_args 0 [.ref 32]) (am_cur_of (i := (61, 3, .invokevirtual 84, (5, 244, 3), 0)) (by decide +kernel)) rfl rfl rfl rfl hc_z
  obtain ⟨r240_z, h241_z, q242_z, hc_z⟩ := hc_z
  rcases tx_c5_23 q242_z with ⟨rfl, y243_z⟩
  replace y243_z := y243_z.symm
  subst y243_z
  replace hc_z : rn _ _ _ _ [] _ _ _ := hc_z
  replace hc_z := rn_vret (am_cur_of (i := (64, 1, .return_, (0, 0, 0), 0)) (by decide +kernel)) hc_z
  obtain ⟨e244_z, e245_z⟩ := hc_z
  exact ⟨e244_z, e245_z⟩
theorem tx_pl {n : Nat} {h h' : am_H} {r : Option Value}   (hc_z : rn n am_m143 0 (lv_args 0 [.ref 164]) [] h r h') : (r = none ∧ h' = (am_up (am_up (am_up (am_up (am_up (am_up (am_up (am_up (am_up (am_up (am_up (am_up (am_up (am_up (am_up (am_up (am_up (am_up (am_up h 164 17 (.int 0)) 164 18 (.int 0)) 164 19 (.int 0)) 164 20 (.int 0)) 164 21 (.int 0)) 164 44 (.int 0)) 167 0 (.int 0)) 167 1 (.int 0)) 167 2 (.int 0)) 167 3 (.int 0)) 168 6 (.int 500)) 168 7 (.int 0)) 168 8 (.int 0)) 168 9 (.int 0)) 168 10 (.int 0)) 168 11 (.int 0)) 178 3 (.int 0)) 178 4 (.int 0)) 178 5 (.int 0))) := by
  have g0_z : am_get (lv_args 0 [.ref 164]) 0 = some (.ref 164) := rfl
  replace hc_z := rn_aload_n (am_cur_of (i := (0, 1, .aload_n 0, (0, 0, 0), 0)) (by decide +kernel)) g0_z hc_z
  replace hc_z := rn_iconst (w := 0) (am_cur_of (i := (1, 1, .iconst 0, (0, 0, 0), 0)) (by decide +kernel)) (by decide) hc_z
  replace hc_z := rn_put (am_cur_of (i := (2, 3, .putfield 201, (12, 17, 1401), 0)) (by decide +kernel)) (by decide +kernel) hc_z
  replace hc_z := rn_aload_n (am_cur_of (i := (5, 1, .aload_n 0, (0, 0, 0), 0)) (by decide +kernel)) g0_z hc_z
  replace hc_z := rn_iconst (w := 0) (am_cur_of (i := (6, 1, .iconst 0, (0, 0, 0), 0)) (by decide +kernel)) (by decide) hc_z
  replace hc_z := rn_put (am_cur_of (i := (7, 3, .putfield 204, (12, 18, 1402), 0)) (by decide +kernel)) (by decide +kernel) hc_z
  replace hc_z := rn_aload_n (am_cur_of (i := (10, 1, .aload_n 0, (0, 0, 0), 0)) (by decide +kernel)) g0_z hc_z
  replace hc_z := rn_iconst (w := 0) (am_cur_of (i := (11, 1, .iconst 0, (0, 0, 0), 0)) (by decide +kernel)) (by decide) hc_z
  replace hc_z := rn_put (am_cur_of (i := (12, 3, .putfield 207, (12, 19, 1403), 0)) (by decide +kernel)) (by decide +kernel) hc_z
  replace hc_z := rn_aload_n (am_cur_of (i := (15, 1, .aload_n 0, (0, 0, 0), 0)) (by decide +kernel)) g0_z hc_z
  replace hc_z := rn_iconst (w := 0) (am_cur_of (i := (16, 1, .iconst 0, (0, 0, 0), 0)) (by decide +kernel)) (by decide) hc_z
  replace hc_z := rn_put (am_cur_of (i := (17, 3, .putfield 210, (12, 20, 1404), 0)) (by decide +kernel)) (by decide +kernel) hc_z
  replace hc_z := rn_aload_n (am_cur_of (i := (20, 1, .aload_n 0, (0, 0, 0), 0)) (by decide +kernel)) g0_z hc_z
  replace hc_z := rn_iconst (w := 0) (am_cur_of (i := (21, 1, .iconst 0, (0, 0, 0), 0)) (by decide +kernel)) (by decide) hc_z
  replace hc_z := rn_put (am_cur_of (i := (22, 3, .putfield 213, (12, 21, 1405), 0)) (by decide +kernel)) (by decide +kernel) hc_z
  replace hc_z := rn_aload_n (am_cur_of (i := (25, 1, .aload_n 0, (0, 0, 0), 0)) (by decide +kernel)) g0_z hc_z
  replace hc_z := rn_iconst (w := 0) (am_cur_of (i := (26, 1, .iconst 0, (0, 0, 0), 0)) (by decide +kernel)) (by decide) hc_z
  replace hc_z := rn_put (am_cur_of (i := (27, 3, .putfield 216, (12, 44, 1428), 0)) (by decide +kernel)) (by decide +kernel) hc_z
  replace hc_z := rn_iconst (w := 0) (am_cur_of (i := (30, 1, .iconst 0, (0, 0, 0), 0)) (by decide +kernel)) (by decide) hc_z
  replace hc_z := rn_istore_n (am_cur_of (i := (31, 1, .istore_n 1, (0, 0, 0), 0)) (by decide +kernel)) hc_z
  obtain ⟨_, s246_z, s247_z, g1_z, hc_z⟩ := hc_z
  replace g0_z := s246_z 0 _ (by decide) rfl g0_z
  clear s246_z s247_z
  replace hc_z := rn_iload_n (am_cur_of (i := (32, 1, .iload_n 1, (0, 0, 0), 0)) (by decide +kernel)) g1_z hc_z
  replace hc_z := rn_iconst (w := 4) (am_cur_of (i := (33, 1, .iconst 4, (0, 0, 0), 0)) (by decide +kernel)) (by decide) hc_z
  replace hc_z := rn_cmpF (am_cur_of (i := (34, 3, .if_icmp .ge 16, (30, 0, 0), 0)) (by decide +kernel)) (by decide) hc_z
  replace hc_z := rn_aload_n (am_cur_of (i := (37, 1, .aload_n 0, (0, 0, 0), 0)) (by decide +kernel)) g0_z hc_z
  replace hc_z := rn_getR (x := 167) (am_cur_of (i := (38, 3, .getfield 20, (12, 22, 1406), 0)) (by decide +kernel)) (by decide +kernel) hc_z
  replace hc_z := rn_iload_n (am_cur_of (i := (41, 1, .iload_n 1, (0, 0, 0), 0)) (by decide +kernel)) g1_z hc_z
  replace hc_z := rn_iconst (w := 0) (am_cur_of (i := (42, 1, .iconst 0, (0, 0, 0), 0)) (by decide +kernel)) (by decide) hc_z
  replace hc_z := rn_bastore (N := 4) (q := 0) (am_cur_of (i := (43, 1, .bastore, (0, 0, 0), 0)) (by decide +kernel)) (by decide +kernel) rfl hc_z
  obtain ⟨p248_z, hc_z⟩ := hc_z
  replace hc_z := rn_iinc (w := 1) (am_cur_of (i := (44, 3, .iinc 1 1, (0, 0, 0), 0)) (by decide +kernel)) g1_z (by decide) hc_z
  obtain ⟨_, s249_z, s250_z, g1_z, hc_z⟩ := hc_z
  replace g0_z := s249_z 0 _ (by decide) rfl g0_z
  clear s249_z s250_z
  replace hc_z := rn_goto (am_cur_of (i := (47, 3, .goto (-15), (20, 0, 0), 0)) (by decide +kernel)) hc_z
  replace hc_z := rn_iload_n (am_cur_of (i := (32, 1, .iload_n 1, (0, 0, 0), 0)) (by decide +kernel)) g1_z hc_z
  replace hc_z := rn_iconst (w := 4) (am_cur_of (i := (33, 1, .iconst 4, (0, 0, 0), 0)) (by decide +kernel)) (by decide) hc_z
  replace hc_z := rn_cmpF (am_cur_of (i := (34, 3, .if_icmp .ge 16, (30, 0, 0), 0)) (by decide +kernel)) (by decide) hc_z
  replace hc_z := rn_aload_n (am_cur_of (i := (37, 1, .aload_n 0, (0, 0, 0), 0)) (by decide +kernel)) g0_z hc_z
  replace hc_z := rn_getR (x := 167) (am_cur_of (i := (38, 3, .getfield 20, (12, 22, 1406), 0)) (by decide +kernel)) (by decide +kernel) hc_z
  replace hc_z := rn_iload_n (am_cur_of (i := (41, 1, .iload_n 1, (0, 0, 0), 0)) (by decide +kernel)) g1_z hc_z
  replace hc_z := rn_iconst (w := 0) (am_cur_of (i := (42, 1, .iconst 0, (0, 0, 0), 0)) (by decide +kernel)) (by decide) hc_z
  replace hc_z := rn_bastore (N := 4) (q := 1) (am_cur_of (i := (43, 1, .bastore, (0, 0, 0), 0)) (by decide +kernel)) (by decide +kernel) rfl hc_z
  obtain ⟨p251_z, hc_z⟩ := hc_z
  replace hc_z := rn_iinc (w := 2) (am_cur_of (i := (44, 3, .iinc 1 1, (0, 0, 0), 0)) (by decide +kernel)) g1_z (by decide) hc_z
  obtain ⟨_, s252_z, s253_z, g1_z, hc_z⟩ := hc_z
  replace g0_z := s252_z 0 _ (by decide) rfl g0_z
  clear s252_z s253_z
  replace hc_z := rn_goto (am_cur_of (i := (47, 3, .goto (-15), (20, 0, 0), 0)) (by decide +kernel)) hc_z
  replace hc_z := rn_iload_n (am_cur_of (i := (32, 1, .iload_n 1, (0, 0, 0), 0)) (by decide +kernel)) g1_z hc_z
  replace hc_z := rn_iconst (w := 4) (am_cur_of (i := (33, 1, .iconst 4, (0, 0, 0), 0)) (by decide +kernel)) (by decide) hc_z
  replace hc_z := rn_cmpF (am_cur_of (i := (34, 3, .if_icmp .ge 16, (30, 0, 0), 0)) (by decide +kernel)) (by decide) hc_z
  replace hc_z := rn_aload_n (am_cur_of (i := (37, 1, .aload_n 0, (0, 0, 0), 0)) (by decide +kernel)) g0_z hc_z
  replace hc_z := rn_getR (x := 167) (am_cur_of (i := (38, 3, .getfield 20, (12, 22, 1406), 0)) (by decide +kernel)) (by decide +kernel) hc_z
  replace hc_z := rn_iload_n (am_cur_of (i := (41, 1, .iload_n 1, (0, 0, 0), 0)) (by decide +kernel)) g1_z hc_z
  replace hc_z := rn_iconst (w := 0) (am_cur_of (i := (42, 1, .iconst 0, (0, 0, 0), 0)) (by decide +kernel)) (by decide) hc_z
  replace hc_z := rn_bastore (N := 4) (q := 2) (am_cur_of (i := (43, 1, .bastore, (0, 0, 0), 0)) (by decide +kernel)) (by decide +kernel) rfl hc_z
  obtain ⟨p254_z, hc_z⟩ := hc_z
  replace hc_z := rn_iinc (w := 3) (am_cur_of (i := (44, 3, .iinc 1 1, (0, 0, 0), 0)) (by decide +kernel)) g1_z (by decide) hc_z
  obtain ⟨_, s255_z, s256_z, g1_z, hc_z⟩ := hc_z
  replace g0_z := s255_z 0 _ (by decide) rfl g0_z
  clear s255_z s256_z
  replace hc_z := rn_goto (am_cur_of (i := (47, 3, .goto (-15), (20, 0, 0), 0)) (by decide +kernel)) hc_z
  replace hc_z := rn_iload_n (am_cur_of (i := (32, 1, .iload_n 1, (0, 0, 0), 0)) (by decide +kernel)) g1_z hc_z
  replace hc_z := rn_iconst (w := 4) (am_cur_of (i := (33, 1, .iconst 4, (0, 0, 0), 0)) (by decide +kernel)) (by decide) hc_z
  replace hc_z := rn_cmpF (am_cur_of (i := (34, 3, .if_icmp .ge 16, (30, 0, 0), 0)) (by decide +kernel)) (by decide) hc_z
  replace hc_z := rn_aload_n (am_cur_of (i := (37, 1, .aload_n 0, (0, 0, 0), 0)) (by decide +kernel)) g0_z hc_z
  replace hc_z := rn_getR (x := 167) (am_cur_of (i := (38, 3, .getfield 20, (12, 22, 1406), 0)) (by decide +kernel)) (by decide +kernel) hc_z
  replace hc_z := rn_iload_n (am_cur_of (i := (41, 1, .iload_n 1, (0, 0, 0), 0)) (by decide +kernel)) g1_z hc_z
  replace hc_z := rn_iconst (w := 0) (am_cur_of (i := (42, 1, .iconst 0, (0, 0, 0), 0)) (by decide +kernel)) (by decide) hc_z
  replace hc_z := rn_bastore (N := 4) (q := 3) (am_cur_of (i := (43, 1, .bastore, (0, 0, 0), 0)) (by decide +kernel)) (by decide +kernel) rfl hc_z
  obtain ⟨p257_z, hc_z⟩ := hc_z
  replace hc_z := rn_iinc (w := 4) (am_cur_of (i := (44, 3, .iinc 1 1, (0, 0, 0), 0)) (by decide +kernel)) g1_z (by decide) hc_z
  obtain ⟨_, s258_z, s259_z, g1_z, hc_z⟩ := hc_z
  replace g0_z := s258_z 0 _ (by decide) rfl g0_z
  clear s258_z s259_z
  replace hc_z := rn_goto (am_cur_of (i := (47, 3, .goto (-15), (20, 0, 0), 0)) (by decide +kernel)) hc_z
  replace hc_z := rn_iload_n (am_cur_of (i := (32, 1, .iload_n 1, (0, 0, 0), 0)) (by decide +kernel)) g1_z hc_z
  replace hc_z := rn_iconst (w := 4) (am_cur_of (i := (33, 1, .iconst 4, (0, 0, 0), 0)) (by decide +kernel)) (by decide) hc_z
  replace hc_z := rn_cmpT (am_cur_of (i := (34, 3, .if_icmp .ge 16, (30, 0, 0), 0)) (by decide +kernel)) (by decide) hc_z
  replace hc_z := rn_aload_n (am_cur_of (i := (50, 1, .aload_n 0, (0, 0, 0), 0)) (by decide +kernel)) g0_z hc_z
  replace hc_z := rn_getR (x := 168) (am_cur_of (i := (51, 3, .getfield 24, (12, 23, 1407), 0)) (by decide +kernel)) (by decide +kernel) hc_z
  replace hc_z := rn_bipush (w := 6) (am_cur_of (i := (54, 2, .bipush 6, (0, 0, 0), 0)) (by decide +kernel)) (by decide) hc_z
  replace hc_z := rn_sipush (w := 500) (am_cur_of (i := (56, 3, .sipush 500, (0, 0, 0), 0)) (by decide +kernel)) (by decide) hc_z
  replace hc_z := rn_iastore (N := 12) (q := 6) (am_cur_of (i := (59, 1, .iastore, (0, 0, 0), 0)) (by decide +kernel)) (by decide +kernel) rfl hc_z
  obtain ⟨p260_z, hc_z⟩ := hc_z
  replace hc_z := rn_bipush (w := 7) (am_cur_of (i := (60, 2, .bipush 7, (0, 0, 0), 0)) (by decide +kernel)) (by decide) hc_z
  replace hc_z := rn_istore_n (am_cur_of (i := (62, 1, .istore_n 1, (0, 0, 0), 0)) (by decide +kernel)) hc_z
  obtain ⟨_, s261_z, s262_z, g1_z, hc_z⟩ := hc_z
  replace g0_z := s261_z 0 _ (by decide) rfl g0_z
  clear s261_z s262_z
  replace hc_z := rn_iload_n (am_cur_of (i := (63, 1, .iload_n 1, (0, 0, 0), 0)) (by decide +kernel)) g1_z hc_z
  replace hc_z := rn_bipush (w := 12) (am_cur_of (i := (64, 2, .bipush 12, (0, 0, 0), 0)) (by decide +kernel)) (by decide) hc_z
  replace hc_z := rn_cmpF (am_cur_of (i := (66, 3, .if_icmp .ge 16, (47, 0, 0), 0)) (by decide +kernel)) (by decide) hc_z
  replace hc_z := rn_aload_n (am_cur_of (i := (69, 1, .aload_n 0, (0, 0, 0), 0)) (by decide +kernel)) g0_z hc_z
  replace hc_z := rn_getR (x := 168) (am_cur_of (i := (70, 3, .getfield 24, (12, 23, 1407), 0)) (by decide +kernel)) (by decide +kernel) hc_z
  replace hc_z := rn_iload_n (am_cur_of (i := (73, 1, .iload_n 1, (0, 0, 0), 0)) (by decide +kernel)) g1_z hc_z
  replace hc_z := rn_iconst (w := 0) (am_cur_of (i := (74, 1, .iconst 0, (0, 0, 0), 0)) (by decide +kernel)) (by decide) hc_z
  replace hc_z := rn_iastore (N := 12) (q := 7) (am_cur_of (i := (75, 1, .iastore, (0, 0, 0), 0)) (by decide +kernel)) (by decide +kernel) rfl hc_z
  obtain ⟨p263_z, hc_z⟩ := hc_z
  replace hc_z := rn_iinc (w := 8) (am_cur_of (i := (76, 3, .iinc 1 1, (0, 0, 0), 0)) (by decide +kernel)) g1_z (by decide) hc_z
  obtain ⟨_, s264_z, s265_z, g1_z, hc_z⟩ := hc_z
  replace g0_z := s264_z 0 _ (by decide) rfl g0_z
  clear s264_z s265_z
  replace hc_z := rn_goto (am_cur_of (i := (79, 3, .goto (-16), (37, 0, 0), 0)) (by decide +kernel)) hc_z
  replace hc_z := rn_iload_n (am_cur_of (i := (63, 1, .iload_n 1, (0, 0, 0), 0)) (by decide +kernel)) g1_z hc_z
  replace hc_z := rn_bipush (w := 12) (am_cur_of (i := (64, 2, .bipush 12, (0, 0, 0), 0)) (by decide +kernel)) (by decide) hc_z
  replace hc_z := rn_cmpF (am_cur_of (i := (66, 3, .if_icmp .ge 16, (47, 0, 0), 0)) (by decide +kernel)) (by decide) hc_z
  replace hc_z := rn_aload_n (am_cur_of (i := (69, 1, .aload_n 0, (0, 0, 0), 0)) (by decide +kernel)) g0_z hc_z
  replace hc_z := rn_getR (x := 168) (am_cur_of (i := (70, 3, .getfield 24, (12, 23, 1407), 0)) (by decide +kernel)) (by decide +kernel) hc_z
  replace hc_z := rn_iload_n (am_cur_of (i := (73, 1, .iload_n 1, (0, 0, 0), 0)) (by decide +kernel)) g1_z hc_z
  replace hc_z := rn_iconst (w := 0) (am_cur_of (i := (74, 1, .iconst 0, (0, 0, 0), 0)) (by decide +kernel)) (by decide) hc_z
  replace hc_z := rn_iastore (N := 12) (q := 8) (am_cur_of (i := (75, 1, .iastore, (0, 0, 0), 0)) (by decide +kernel)) (by decide +kernel) rfl hc_z
  obtain ⟨p266_z, hc_z⟩ := hc_z
  replace hc_z := rn_iinc (w := 9) (am_cur_of (i := (76, 3, .iinc 1 1, (0, 0, 0), 0)) (by decide +kernel)) g1_z (by decide) hc_z
  obtain ⟨_, s267_z, s268_z, g1_z, hc_z⟩ := hc_z
  replace g0_z := s267_z 0 _ (by decide) rfl g0_z
  clear s267_z s268_z
  replace hc_z := rn_goto (am_cur_of (i := (79, 3, .goto (-16), (37, 0, 0), 0)) (by decide +kernel)) hc_z
  replace hc_z := rn_iload_n (am_cur_of (i := (63, 1, .iload_n 1, (0, 0, 0), 0)) (by decide +kernel)) g1_z hc_z
  replace hc_z := rn_bipush (w := 12) (am_cur_of (i := (64, 2, .bipush 12, (0, 0, 0), 0)) (by decide +kernel)) (by decide) hc_z
  replace hc_z := rn_cmpF (am_cur_of (i := (66, 3, .if_icmp .ge 16, (47, 0, 0), 0)) (by decide +kernel)) (by decide) hc_z
  replace hc_z := rn_aload_n (am_cur_of (i := (69, 1, .aload_n 0, (0, 0, 0), 0)) (by decide +kernel)) g0_z hc_z
  replace hc_z := rn_getR (x := 168) (am_cur_of (i := (70, 3, .getfield 24, (12, 23, 1407), 0)) (by decide +kernel)) (by decide +kernel) hc_z
  replace hc_z := rn_iload_n (am_cur_of (i := (73, 1, .iload_n 1, (0, 0, 0), 0)) (by decide +kernel)) g1_z hc_z
  replace hc_z := rn_iconst (w := 0) (am_cur_of (i := (74, 1, .iconst 0, (0, 0, 0), 0)) (by decide +kernel)) (by decide) hc_z
  replace hc_z := rn_iastore (N := 12) (q := 9) (am_cur_of (i := (75, 1, .iastore, (0, 0, 0), 0)) (by decide +kernel)) (by decide +kernel) rfl hc_z
  obtain ⟨p269_z, hc_z⟩ := hc_z
  replace hc_z := rn_iinc (w := 10) (am_cur_of (i := (76, 3, .iinc 1 1, (0, 0, 0), 0)) (by decide +kernel)) g1_z (by decide) hc_z
  obtain ⟨_, s270_z, s271_z, g1_z, hc_z⟩ := hc_z
  replace g0_z := s270_z 0 _ (by decide) rfl g0_z
  clear s270_z s271_z
  replace hc_z := rn_goto (am_cur_of (i := (79, 3, .goto (-16), (37, 0, 0), 0)) (by decide +kernel)) hc_z
  replace hc_z := rn_iload_n (am_cur_of (i := (63, 1, .iload_n 1, (0, 0, 0), 0)) (by decide +kernel)) g1_z hc_z
  replace hc_z := rn_bipush (w := 12) (am_cur_of (i := (64, 2, .bipush 12, (0, 0, 0), 0)) (by decide +kernel)) (by decide) hc_z
  replace hc_z := rn_cmpF (am_cur_of (i := (66, 3, .if_icmp .ge 16, (47, 0, 0), 0)) (by decide +kernel)) (by decide) hc_z
  replace hc_z := rn_aload_n (am_cur_of (i := (69, 1, .aload_n 0, (0, 0, 0), 0)) (by decide +kernel)) g0_z hc_z
  replace hc_z := rn_getR (x := 168) (am_cur_of (i := (70, 3, .getfield 24, (12, 23, 1407), 0)) (by decide +kernel)) (by decide +kernel) hc_z
  replace hc_z := rn_iload_n (am_cur_of (i := (73, 1, .iload_n 1, (0, 0, 0), 0)) (by decide +kernel)) g1_z hc_z
  replace hc_z := rn_iconst (w := 0) (am_cur_of (i := (74, 1, .iconst 0, (0, 0, 0), 0)) (by decide +kernel)) (by decide) hc_z
  replace hc_z := rn_iastore (N := 12) (q := 10) (am_cur_of (i := (75, 1, .iastore, (0, 0, 0), 0)) (by decide +kernel)) (by decide +kernel) rfl hc_z
  obtain ⟨p272_z, hc_z⟩ := hc_z
  replace hc_z := rn_iinc (w := 11) (am_cur_of (i := (76, 3, .iinc 1 1, (0, 0, 0), 0)) (by decide +kernel)) g1_z (by decide) hc_z
  obtain ⟨_, s273_z, s274_z, g1_z, hc_z⟩ := hc_z
  replace g0_z := s273_z 0 _ (by decide) rfl g0_z
  clear s273_z s274_z
  replace hc_z := rn_goto (am_cur_of (i := (79, 3, .goto (-16), (37, 0, 0), 0)) (by decide +kernel)) hc_z
  replace hc_z := rn_iload_n (am_cur_of (i := (63, 1, .iload_n 1, (0, 0, 0), 0)) (by decide +kernel)) g1_z hc_z
  replace hc_z := rn_bipush (w := 12) (am_cur_of (i := (64, 2, .bipush 12, (0, 0, 0), 0)) (by decide +kernel)) (by decide) hc_z
  replace hc_z := rn_cmpF (am_cur_of (i := (66, 3, .if_icmp .ge 16, (47, 0, 0), 0)) (by decide +kernel)) (by decide) hc_z
  replace hc_z := rn_aload_n (am_cur_of (i := (69, 1, .aload_n 0, (0, 0, 0), 0)) (by decide +kernel)) g0_z hc_z
  replace hc_z := rn_getR (x := 168) (am_cur_of (i := (70, 3, .getfield 24, (12, 23, 1407), 0)) (by decide +kernel)) (by decide +kernel) hc_z
  replace hc_z := rn_iload_n (am_cur_of (i := (73, 1, .iload_n 1, (0, 0, 0), 0)) (by decide +kernel)) g1_z hc_z
  replace hc_z := rn_iconst (w := 0) (am_cur_of (i := (74, 1, .iconst 0, (0, 0, 0), 0)) (by decide +kernel)) (by decide) hc_z
  replace hc_z := rn_iastore (N := 12) (q := 11) (am_cur_of (i := (75, 1, .iastore, (0, 0, 0), 0)) (by decide +kernel)) (by decide +kernel) rfl hc_z
  obtain ⟨p275_z, hc_z⟩ := hc_z
  replace hc_z := rn_iinc (w := 12) (am_cur_of (i := (76, 3, .iinc 1 1, (0, 0, 0), 0)) (by decide +kernel)) g1_z (by decide) hc_z
  obtain ⟨_, s276_z, s277_z, g1_z, hc_z⟩ := hc_z
  replace g0_z := s276_z 0 _ (by decide) rfl g0_z
  clear s276_z s277_z
  replace hc_z := rn_goto (am_cur_of (i := (79, 3, .goto (-16), (37, 0, 0), 0)) (by decide +kernel)) hc_z
  replace hc_z := rn_iload_n (am_cur_of (i := (63, 1, .iload_n 1, (0, 0, 0), 0)) (by decide +kernel)) g1_z hc_z
  replace hc_z := rn_bipush (w := 12) (am_cur_of (i := (64, 2, .bipush 12, (0, 0, 0), 0)) (by decide +kernel)) (by decide) hc_z
  replace hc_z := rn_cmpT (am_cur_of (i := (66, 3, .if_icmp .ge 16, (47, 0, 0), 0)) (by decide +kernel)) (by decide) hc_z
  replace hc_z := rn_iconst (w := 3) (am_cur_of (i := (82, 1, .iconst 3, (0, 0, 0), 0)) (by decide +kernel)) (by decide) hc_z
  replace hc_z := rn_istore_n (am_cur_of (i := (83, 1, .istore_n 1, (0, 0, 0), 0)) (by decide +kernel)) hc_z
  obtain ⟨_, s278_z, s279_z, g1_z, hc_z⟩ := hc_z
  replace g0_z := s278_z 0 _ (by decide) rfl g0_z
  clear s278_z s279_z
  replace hc_z := rn_iload_n (am_cur_of (i := (84, 1, .iload_n 1, (0, 0, 0), 0)) (by decide +kernel)) g1_z hc_z
  replace hc_z := rn_bipush (w := 6) (am_cur_of (i := (85, 2, .bipush 6, (0, 0, 0), 0)) (by decide +kernel)) (by decide) hc_z
  replace hc_z := rn_cmpF (am_cur_of (i := (87, 3, .if_icmp .ge 16, (59, 0, 0), 0)) (by decide +kernel)) (by decide) hc_z
  replace hc_z := rn_aload_n (am_cur_of (i := (90, 1, .aload_n 0, (0, 0, 0), 0)) (by decide +kernel)) g0_z hc_z
  replace hc_z := rn_getR (x := 178) (am_cur_of (i := (91, 3, .getfield 54, (12, 33, 1417), 0)) (by decide +kernel)) (by decide +kernel) hc_z
  replace hc_z := rn_iload_n (am_cur_of (i := (94, 1, .iload_n 1, (0, 0, 0), 0)) (by decide +kernel)) g1_z hc_z
  replace hc_z := rn_iconst (w := 0) (am_cur_of (i := (95, 1, .iconst 0, (0, 0, 0), 0)) (by decide +kernel)) (by decide) hc_z
  replace hc_z := rn_bastore (N := 6) (q := 3) (am_cur_of (i := (96, 1, .bastore, (0, 0, 0), 0)) (by decide +kernel)) (by decide +kernel) rfl hc_z
  obtain ⟨p280_z, hc_z⟩ := hc_z
  replace hc_z := rn_iinc (w := 4) (am_cur_of (i := (97, 3, .iinc 1 1, (0, 0, 0), 0)) (by decide +kernel)) g1_z (by decide) hc_z
  obtain ⟨_, s281_z, s282_z, g1_z, hc_z⟩ := hc_z
  replace g0_z := s281_z 0 _ (by decide) rfl g0_z
  clear s281_z s282_z
  replace hc_z := rn_goto (am_cur_of (i := (100, 3, .goto (-16), (49, 0, 0), 0)) (by decide +kernel)) hc_z
  replace hc_z := rn_iload_n (am_cur_of (i := (84, 1, .iload_n 1, (0, 0, 0), 0)) (by decide +kernel)) g1_z hc_z
  replace hc_z := rn_bipush (w := 6) (am_cur_of (i := (85, 2, .bipush 6, (0, 0, 0), 0)) (by decide +kernel)) (by decide) hc_z
  replace hc_z := rn_cmpF (am_cur_of (i := (87, 3, .if_icmp .ge 16, (59, 0, 0), 0)) (by decide +kernel)) (by decide) hc_z
  replace hc_z := rn_aload_n (am_cur_of (i := (90, 1, .aload_n 0, (0, 0, 0), 0)) (by decide +kernel)) g0_z hc_z
  replace hc_z := rn_getR (x := 178) (am_cur_of (i := (91, 3, .getfield 54, (12, 33, 1417), 0)) (by decide +kernel)) (by decide +kernel) hc_z
  replace hc_z := rn_iload_n (am_cur_of (i := (94, 1, .iload_n 1, (0, 0, 0), 0)) (by decide +kernel)) g1_z hc_z
  replace hc_z := rn_iconst (w := 0) (am_cur_of (i := (95, 1, .iconst 0, (0, 0, 0), 0)) (by decide +kernel)) (by decide) hc_z
  replace hc_z := rn_bastore (N := 6) (q := 4) (am_cur_of (i := (96, 1, .bastore, (0, 0, 0), 0)) (by decide +kernel)) (by decide +kernel) rfl hc_z
  obtain ⟨p283_z, hc_z⟩ := hc_z
  replace hc_z := rn_iinc (w := 5) (am_cur_of (i := (97, 3, .iinc 1 1, (0, 0, 0), 0)) (by decide +kernel)) g1_z (by decide) hc_z
  obtain ⟨_, s284_z, s285_z, g1_z, hc_z⟩ := hc_z
  replace g0_z := s284_z 0 _ (by decide) rfl g0_z
  clear s284_z s285_z
  replace hc_z := rn_goto (am_cur_of (i := (100, 3, .goto (-16), (49, 0, 0), 0)) (by decide +kernel)) hc_z
  replace hc_z := rn_iload_n (am_cur_of (i := (84, 1, .iload_n 1, (0, 0, 0), 0)) (by decide +kernel)) g1_z hc_z
  replace hc_z := rn_bipush (w := 6) (am_cur_of (i := (85, 2, .bipush 6, (0, 0, 0), 0)) (by decide +kernel)) (by decide) hc_z
  replace hc_z := rn_cmpF (am_cur_of (i := (87, 3, .if_icmp .ge 16, (59, 0, 0), 0)) (by decide +kernel)) (by decide) hc_z
  replace hc_z := rn_aload_n (am_cur_of (i := (90, 1, .aload_n 0, (0, 0, 0), 0)) (by decide +kernel)) g0_z hc_z
  replace hc_z := rn_getR (x := 178) (am_cur_of (i := (91, 3, .getfield 54, (12, 33, 1417), 0)) (by decide +kernel)) (by decide +kernel) hc_z
  replace hc_z := rn_iload_n (am_cur_of (i := (94, 1, .iload_n 1, (0, 0, 0), 0)) (by decide +kernel)) g1_z hc_z
  replace hc_z := rn_iconst (w := 0) (am_cur_of (i := (95, 1, .iconst 0, (0, 0, 0), 0)) (by decide +kernel)) (by decide) hc_z
  replace hc_z := rn_bastore (N := 6) (q := 5) (am_cur_of (i := (96, 1, .bastore, (0, 0, 0), 0)) (by decide +kernel)) (by decide +kernel) rfl hc_z
  obtain ⟨p286_z, hc_z⟩ := hc_z
  replace hc_z := rn_iinc (w := 6) (am_cur_of (i := (97, 3, .iinc 1 1, (0, 0, 0), 0)) (by decide +kernel)) g1_z (by decide) hc_z
  obtain ⟨_, s287_z, s288_z, g1_z, hc_z⟩ := hc_z
  replace g0_z := s287_z 0 _ (by decide) rfl g0_z
  clear s287_z s288_z
  replace hc_z := rn_goto (am_cur_of (i := (100, 3, .goto (-16), (49, 0, 0), 0)) (by decide +kernel)) hc_z
  replace hc_z := rn_iload_n (am_cur_of (i := (84, 1, .iload_n 1, (0, 0, 0), 0)) (by decide +kernel)) g1_z hc_z
  replace hc_z := rn_bipush (w := 6) (am_cur_of (i := (85, 2, .bipush 6, (0, 0, 0), 0)) (by decide +kernel)) (by decide) hc_z
  replace hc_z := rn_cmpT (am_cur_of (i := (87, 3, .if_icmp .ge 16, (59, 0, 0), 0)) (by decide +kernel)) (by decide) hc_z
  replace hc_z := rn_vret (am_cur_of (i := (103, 1, .return_, (0, 0, 0), 0)) (by decide +kernel)) hc_z
  obtain ⟨e289_z, e290_z⟩ := hc_z
  exact ⟨e289_z, e290_z⟩
/-- what stands before a call of text: the tape and the words of both -/
def tx_I (t : Int32) (h g : am_H) : Prop := rg_v h 0 1 = t ∧ rg_v g 164 1 = t ∧ 0 ≤ t.toInt ∧ t.toInt ≤ 700 ∧ (∀ k, k < t.toNatClampNeg → rg_v g 165 k = rg_v h 1 k) ∧ (∀ k, k < 20 → rg_v h 45 k = rt_w k) ∧ (∀ k, k < 101 → rg_v g 166 k = ab_words k)
/-- the plan and the draft of the class -/
def tx_D (h : am_H) : Prop := (h 0 3 = .ref 2 ∧ h 0 2 = .ref 23) ∨ (h 0 3 = .ref 23 ∧ h 0 2 = .ref 2)
theorem tx2_z {n n' : Nat} {h h' g g' : am_H} {r r' : Option Value} {t nn : Int32} (I : tx_I t h g) (D : h 0 3 = .ref 2) (E : h 0 2 = .ref 23) (hc_z : rn n am_m17 0 (lv_args 0 [.ref 0, .int nn]) [] h r h') (hm_z : rn n' am_m150 0 (lv_args 0 [.ref 164, .int nn]) [] g r' g') : (∃ v, r = some (.int v) ∧ r' = some (.int v)) ∧ tx_D h' ∧ tx_O 2 h g h' g' := by
  have z0_z : (0 : Int32).toInt = 0 := by decide
  have g0_z : am_get (lv_args 0 [.ref 0, .int nn]) 0 = some (.ref 0) := rfl
  have g1_z : am_get (lv_args 0 [.ref 0, .int nn]) 1 = some (.int nn) := rfl
  have g0m : am_get (lv_args 0 [.ref 164, .int nn]) 0 = some (.ref 164) := rfl
  have g1m : am_get (lv_args 0 [.ref 164, .int nn]) 1 = some (.int nn) := rfl
  obtain ⟨I1, I2, I3, I4, I5, I6, I7⟩ := I
  replace hc_z := rn_iload_n (am_cur_of (i := (0, 1, .iload_n 1, (0, 0, 0), 0)) (by decide +kernel)) g1_z hc_z
  replace hc_z := rn_if (am_cur_of (i := (1, 3, .ifCond .lt 11, (6, 0, 0), 0)) (by decide +kernel)) hc_z
  rcases hc_z with ⟨b291_z, hc_z⟩ | ⟨b291_z, hc_z⟩
  · replace b291_z : nn.toInt < (0 : Int32).toInt := b291_z
    replace hc_z := rn_bipush (w := (-2)) (am_cur_of (i := (12, 2, .bipush (-2), (0, 0, 0), 0)) (by decide +kernel)) (by decide) hc_z
    replace hc_z := rn_iret (am_cur_of (i := (14, 1, .ireturn, (0, 0, 0), 0)) (by decide +kernel)) hc_z
    obtain ⟨e292_z, e293_z⟩ := hc_z
    replace e293_z := e293_z.symm
    subst e293_z
    replace hm_z := rn_aload_n (am_cur_of (i := (0, 1, .aload_n 0, (0, 0, 0), 0)) (by decide +kernel)) g0m hm_z
    replace hm_z := rn_iconst (w := 0) (am_cur_of (i := (1, 1, .iconst 0, (0, 0, 0), 0)) (by decide +kernel)) (by decide) hm_z
    replace hm_z := rn_put (am_cur_of (i := (2, 3, .putfield 139, (12, 2, 1386), 0)) (by decide +kernel)) (by decide +kernel) hm_z
    replace hm_z := rn_iload_n (am_cur_of (i := (5, 1, .iload_n 1, (0, 0, 0), 0)) (by decide +kernel)) g1m hm_z
    replace hm_z := rn_if (am_cur_of (i := (6, 3, .ifCond .lt 11, (9, 0, 0), 0)) (by decide +kernel)) hm_z
    rcases hm_z with ⟨b294_z, hm_z⟩ | ⟨b294_z, hm_z⟩
    · replace b294_z : nn.toInt < (0 : Int32).toInt := b294_z
      replace hm_z := rn_bipush (w := (-2)) (am_cur_of (i := (17, 2, .bipush (-2), (0, 0, 0), 0)) (by decide +kernel)) (by decide) hm_z
      replace hm_z := rn_iret (am_cur_of (i := (19, 1, .ireturn, (0, 0, 0), 0)) (by decide +kernel)) hm_z
      obtain ⟨e295_z, e296_z⟩ := hm_z
      exact ⟨⟨_, e292_z, e295_z⟩, Or.inl ⟨D, E⟩, Or.inl ⟨rfl, e296_z⟩⟩
    · replace b294_z : (0 : Int32).toInt ≤ nn.toInt := b294_z
      omega
  · replace b291_z : (0 : Int32).toInt ≤ nn.toInt := b291_z
    replace hc_z := rn_iload_n (am_cur_of (i := (4, 1, .iload_n 1, (0, 0, 0), 0)) (by decide +kernel)) g1_z hc_z
    replace hc_z := rn_aload_n (am_cur_of (i := (5, 1, .aload_n 0, (0, 0, 0), 0)) (by decide +kernel)) g0_z hc_z
    replace hc_z := rn_getI (v := t) (am_cur_of (i := (6, 3, .getfield 99, (0, 1, 662), 0)) (by decide +kernel)) (by decide +kernel) I1 hc_z
    replace hc_z := rn_cmp (am_cur_of (i := (9, 3, .if_icmp .le 6, (8, 0, 0), 0)) (by decide +kernel)) hc_z
    rcases hc_z with ⟨b297_z, hc_z⟩ | ⟨b297_z, hc_z⟩
    · replace b297_z : nn.toInt ≤ t.toInt := b297_z
      replace hc_z := rn_aload_n (am_cur_of (i := (15, 1, .aload_n 0, (0, 0, 0), 0)) (by decide +kernel)) g0_z hc_z
      replace hc_z := rn_iconst (w := 0) (am_cur_of (i := (16, 1, .iconst 0, (0, 0, 0), 0)) (by decide +kernel)) (by decide) hc_z
      replace hc_z := rn_put (am_cur_of (i := (17, 3, .putfield 99, (0, 1, 662), 0)) (by decide +kernel)) (by decide +kernel) hc_z
      replace hc_z := rn_aload_n (am_cur_of (i := (20, 1, .aload_n 0, (0, 0, 0), 0)) (by decide +kernel)) g0_z hc_z
      replace hc_z := rn_getR (x := 44) (am_cur_of (i := (21, 3, .getfield 30, (0, 4, 665), 0)) (by decide +kernel)) (by decide +kernel) hc_z
      replace hc_z := rn_aload_n (am_cur_of (i := (24, 1, .aload_n 0, (0, 0, 0), 0)) (by decide +kernel)) g0_z hc_z
      replace hc_z := rn_getR (x := 1) (am_cur_of (i := (25, 3, .getfield 11, (0, 0, 661), 0)) (by decide +kernel)) (by decide +kernel) hc_z
      replace hc_z := rn_iload_n (am_cur_of (i := (28, 1, .iload_n 1, (0, 0, 0), 0)) (by decide +kernel)) g1_z hc_z
      replace hc_z := rn_aload_n (am_cur_of (i := (29, 1, .aload_n 0, (0, 0, 0), 0)) (by decide +kernel)) g0_z hc_z
      replace hc_z := rn_getM (x := 2) (am_cur_of (i := (30, 3, .getfield 22, (0, 3, 664), 0)) (by decide +kernel)) (show (am_up h 0 1 (.int 0)) 0 3 = .ref 2 from D) hc_z
      replace hc_z := rn_callV (M' := am_m18) (o := 44) (ar := [.ref 2, .int nn, .ref 1]) (rest := []) (L := lv_args 0 [.ref 44, .ref 1, .int nn, .ref 2]) (am_cur_of (i := (33, 3, .invokevirtual 107, (18, 722, 3), 0)) (by decide +kernel)) rfl rfl rfl rfl hc_z
      obtain ⟨r298_z, h299_z, q300_z, hc_z⟩ := hc_z
      have g0r : am_get (lv_args 0 [.ref 44, .ref 1, .int nn, .ref 2]) 0 = some (.ref 44) := rfl
      have g1r : am_get (lv_args 0 [.ref 44, .ref 1, .int nn, .ref 2]) 1 = some (.ref 1) := rfl
      have g2r : am_get (lv_args 0 [.ref 44, .ref 1, .int nn, .ref 2]) 2 = some (.int nn) := rfl
      have g3r : am_get (lv_args 0 [.ref 44, .ref 1, .int nn, .ref 2]) 3 = some (.ref 2) := rfl
      have QQ := q300_z
      replace q300_z := rn_aload_n (am_cur_of (i := (0, 1, .aload_n 0, (0, 0, 0), 0)) (by decide +kernel)) g0r q300_z
      replace q300_z := rn_aload_n (am_cur_of (i := (1, 1, .aload_n 1, (0, 0, 0), 0)) (by decide +kernel)) g1r q300_z
      replace q300_z := rn_put (am_cur_of (i := (2, 3, .putfield 19, (4, 4, 413), 0)) (by decide +kernel)) (by decide +kernel) q300_z
      replace q300_z := rn_aload_n (am_cur_of (i := (5, 1, .aload_n 0, (0, 0, 0), 0)) (by decide +kernel)) g0r q300_z
      replace q300_z := rn_iload_n (am_cur_of (i := (6, 1, .iload_n 2, (0, 0, 0), 0)) (by decide +kernel)) g2r q300_z
      replace q300_z := rn_put (am_cur_of (i := (7, 3, .putfield 37, (4, 5, 414), 0)) (by decide +kernel)) (by decide +kernel) q300_z
      replace q300_z := rn_aload_n (am_cur_of (i := (10, 1, .aload_n 0, (0, 0, 0), 0)) (by decide +kernel)) g0r q300_z
      replace q300_z := rn_aload_n (am_cur_of (i := (11, 1, .aload_n 3, (0, 0, 0), 0)) (by decide +kernel)) g3r q300_z
      replace q300_z := rn_put (am_cur_of (i := (12, 3, .putfield 25, (4, 6, 415), 0)) (by decide +kernel)) (by decide +kernel) q300_z
      replace q300_z := rn_aload_n (am_cur_of (i := (15, 1, .aload_n 0, (0, 0, 0), 0)) (by decide +kernel)) g0r q300_z
      replace q300_z := rn_getM (x := 2) (am_cur_of (i := (16, 3, .getfield 25, (4, 6, 415), 0)) (by decide +kernel)) rfl q300_z
      replace q300_z := rn_callV (M' := am_m4) (o := 2) (ar := []) (rest := []) (L := lv_args 0 [.ref 2]) (am_cur_of (i := (19, 3, .invokevirtual 40, (4, 726, 3), 0)) (by decide +kernel)) rfl rfl rfl rfl q300_z
      obtain ⟨r301_z, h302_z, q303_z, q300_z⟩ := q300_z
      rcases tx_c4_2 q303_z with ⟨rfl, y304_z⟩
      replace y304_z := y304_z.symm
      subst y304_z
      replace q300_z : rn _ _ _ _ [] _ _ _ := q300_z
      replace q300_z := rn_aload_n (am_cur_of (i := (22, 1, .aload_n 0, (0, 0, 0), 0)) (by decide +kernel)) g0r q300_z
      replace q300_z := rn_iconst (w := 0) (am_cur_of (i := (23, 1, .iconst 0, (0, 0, 0), 0)) (by decide +kernel)) (by decide) q300_z
      replace q300_z := rn_put (am_cur_of (i := (24, 3, .putfield 45, (4, 7, 416), 0)) (by decide +kernel)) (by decide +kernel) q300_z
      replace q300_z := rn_aload_n (am_cur_of (i := (27, 1, .aload_n 0, (0, 0, 0), 0)) (by decide +kernel)) g0r q300_z
      replace q300_z := rn_iconst (w := 0) (am_cur_of (i := (28, 1, .iconst 0, (0, 0, 0), 0)) (by decide +kernel)) (by decide) q300_z
      replace q300_z := rn_put (am_cur_of (i := (29, 3, .putfield 48, (4, 0, 406), 0)) (by decide +kernel)) (by decide +kernel) q300_z
      replace q300_z := rn_aload_n (am_cur_of (i := (32, 1, .aload_n 0, (0, 0, 0), 0)) (by decide +kernel)) g0r q300_z
      replace q300_z := rn_iconst (w := 0) (am_cur_of (i := (33, 1, .iconst 0, (0, 0, 0), 0)) (by decide +kernel)) (by decide) q300_z
      replace q300_z := rn_put (am_cur_of (i := (34, 3, .putfield 51, (4, 1, 408), 0)) (by decide +kernel)) (by decide +kernel) q300_z
      replace q300_z := rn_aload_n (am_cur_of (i := (37, 1, .aload_n 0, (0, 0, 0), 0)) (by decide +kernel)) g0r q300_z
      replace q300_z := rn_iconst (w := (-1)) (am_cur_of (i := (38, 1, .iconst (-1), (0, 0, 0), 0)) (by decide +kernel)) (by decide) q300_z
      replace q300_z := rn_put (am_cur_of (i := (39, 3, .putfield 9, (4, 2, 410), 0)) (by decide +kernel)) (by decide +kernel) q300_z
      replace q300_z := rn_aload_n (am_cur_of (i := (42, 1, .aload_n 0, (0, 0, 0), 0)) (by decide +kernel)) g0r q300_z
      replace q300_z := rn_iconst (w := 0) (am_cur_of (i := (43, 1, .iconst 0, (0, 0, 0), 0)) (by decide +kernel)) (by decide) q300_z
      replace q300_z := rn_put (am_cur_of (i := (44, 3, .putfield 54, (4, 8, 417), 0)) (by decide +kernel)) (by decide +kernel) q300_z
      replace q300_z := rn_aload_n (am_cur_of (i := (47, 1, .aload_n 0, (0, 0, 0), 0)) (by decide +kernel)) g0r q300_z
      replace q300_z := rn_callV (M' := am_m19) (o := 44) (ar := []) (rest := []) (L := lv_args 0 [.ref 44]) (am_cur_of (i := (48, 3, .invokevirtual 57, (19, 727, 3), 0)) (by decide +kernel)) rfl rfl rfl rfl q300_z
      obtain ⟨r305_z, h306_z, q307_z, q300_z⟩ := q300_z
      have vo := rn_void rfl q307_z
      subst vo
      replace hm_z := rn_aload_n (am_cur_of (i := (0, 1, .aload_n 0, (0, 0, 0), 0)) (by decide +kernel)) g0m hm_z
      replace hm_z := rn_iconst (w := 0) (am_cur_of (i := (1, 1, .iconst 0, (0, 0, 0), 0)) (by decide +kernel)) (by decide) hm_z
      replace hm_z := rn_put (am_cur_of (i := (2, 3, .putfield 139, (12, 2, 1386), 0)) (by decide +kernel)) (by decide +kernel) hm_z
      replace hm_z := rn_iload_n (am_cur_of (i := (5, 1, .iload_n 1, (0, 0, 0), 0)) (by decide +kernel)) g1m hm_z
      replace hm_z := rn_if (am_cur_of (i := (6, 3, .ifCond .lt 11, (9, 0, 0), 0)) (by decide +kernel)) hm_z
      rcases hm_z with ⟨b308_z, hm_z⟩ | ⟨b308_z, hm_z⟩
      · replace b308_z : nn.toInt < (0 : Int32).toInt := b308_z
        omega
      · replace b308_z : (0 : Int32).toInt ≤ nn.toInt := b308_z
        replace hm_z := rn_iload_n (am_cur_of (i := (9, 1, .iload_n 1, (0, 0, 0), 0)) (by decide +kernel)) g1m hm_z
        replace hm_z := rn_aload_n (am_cur_of (i := (10, 1, .aload_n 0, (0, 0, 0), 0)) (by decide +kernel)) g0m hm_z
        replace hm_z := rn_getI (v := t) (am_cur_of (i := (11, 3, .getfield 142, (12, 1, 1385), 0)) (by decide +kernel)) (by decide +kernel) (show rg_v (am_up g 164 2 (.int 0)) 164 1 = t from I2) hm_z
        replace hm_z := rn_cmp (am_cur_of (i := (14, 3, .if_icmp .le 6, (11, 0, 0), 0)) (by decide +kernel)) hm_z
        rcases hm_z with ⟨b309_z, hm_z⟩ | ⟨b309_z, hm_z⟩
        · replace b309_z : nn.toInt ≤ t.toInt := b309_z
          replace hm_z := rn_aload_n (am_cur_of (i := (20, 1, .aload_n 0, (0, 0, 0), 0)) (by decide +kernel)) g0m hm_z
          replace hm_z := rn_iload_n (am_cur_of (i := (21, 1, .iload_n 1, (0, 0, 0), 0)) (by decide +kernel)) g1m hm_z
          replace hm_z := rn_put (am_cur_of (i := (22, 3, .putfield 151, (12, 6, 1390), 0)) (by decide +kernel)) (by decide +kernel) hm_z
          replace hm_z := rn_aload_n (am_cur_of (i := (25, 1, .aload_n 0, (0, 0, 0), 0)) (by decide +kernel)) g0m hm_z
          replace hm_z := rn_iconst (w := 0) (am_cur_of (i := (26, 1, .iconst 0, (0, 0, 0), 0)) (by decide +kernel)) (by decide) hm_z
          replace hm_z := rn_put (am_cur_of (i := (27, 3, .putfield 142, (12, 1, 1385), 0)) (by decide +kernel)) (by decide +kernel) hm_z
          replace hm_z := rn_aload_n (am_cur_of (i := (30, 1, .aload_n 0, (0, 0, 0), 0)) (by decide +kernel)) g0m hm_z
          replace hm_z := rn_iconst (w := 0) (am_cur_of (i := (31, 1, .iconst 0, (0, 0, 0), 0)) (by decide +kernel)) (by decide) hm_z
          replace hm_z := rn_put (am_cur_of (i := (32, 3, .putfield 145, (12, 4, 1388), 0)) (by decide +kernel)) (by decide +kernel) hm_z
          replace hm_z := rn_aload_n (am_cur_of (i := (35, 1, .aload_n 0, (0, 0, 0), 0)) (by decide +kernel)) g0m hm_z
          replace hm_z := rn_iconst (w := (-1)) (am_cur_of (i := (36, 1, .iconst (-1), (0, 0, 0), 0)) (by decide +kernel)) (by decide) hm_z
          replace hm_z := rn_put (am_cur_of (i := (37, 3, .putfield 16, (12, 5, 1389), 0)) (by decide +kernel)) (by decide +kernel) hm_z
          replace hm_z := rn_aload_n (am_cur_of (i := (40, 1, .aload_n 0, (0, 0, 0), 0)) (by decide +kernel)) g0m hm_z
          replace hm_z := rn_iconst (w := 0) (am_cur_of (i := (41, 1, .iconst 0, (0, 0, 0), 0)) (by decide +kernel)) (by decide) hm_z
          replace hm_z := rn_put (am_cur_of (i := (42, 3, .putfield 154, (12, 7, 1391), 0)) (by decide +kernel)) (by decide +kernel) hm_z
          replace hm_z := rn_aload_n (am_cur_of (i := (45, 1, .aload_n 0, (0, 0, 0), 0)) (by decide +kernel)) g0m hm_z
          replace hm_z := rn_callV (M' := am_m143) (o := 164) (ar := []) (rest := []) (L := lv_args 0 [.ref 164]) (am_cur_of (i := (46, 3, .invokevirtual 133, (143, 1357, 3), 0)) (by decide +kernel)) rfl rfl rfl rfl hm_z
          obtain ⟨r310_z, h311_z, q312_z, hm_z⟩ := hm_z
          rcases tx_pl q312_z with ⟨rfl, y313_z⟩
          replace y313_z := y313_z.symm
          subst y313_z
          replace hm_z : rn _ _ _ _ [] _ _ _ := hm_z
          replace hm_z := rn_aload_n (am_cur_of (i := (49, 1, .aload_n 0, (0, 0, 0), 0)) (by decide +kernel)) g0m hm_z
          replace hm_z := rn_callV (M' := am_m151) (o := 164) (ar := []) (rest := []) (L := lv_args 0 [.ref 164]) (am_cur_of (i := (50, 3, .invokevirtual 191, (151, 1636, 3), 0)) (by decide +kernel)) rfl rfl rfl rfl hm_z
          obtain ⟨r314_z, h315_z, q316_z, hm_z⟩ := hm_z
          have vo := rn_void rfl q316_z
          subst vo
          have cn := rt_cl (x := nn) (by omega)
          have ct := rt_cl (x := t) (by omega)
          have R0 : rq0_z (fun k => rg_v h 1 k) nn 0 2 (am_up (am_up (am_up (am_up (am_up (am_up (am_up (am_up (am_up (am_up (am_up (am_up (am_up (am_up (am_up (am_up (am_up (am_up (am_up (am_up (am_up (am_up (am_up (am_up (am_up (am_up (am_up (am_up (am_up (am_up (am_up h 0 1 (.int 0)) 44 4 (.ref 1)) 44 5 (.int nn)) 44 6 (.ref 2)) 2 0 (.int 500)) 2 1 (.int 0)) 2 2 (.int 0)) 2 4 (.int 0)) 2 7 (.int 0)) 2 8 (.int 0)) 2 9 (.int 0)) 2 12 (.int 0)) 2 16 (.int 0)) 2 17 (.int 0)) 2 18 (.int (-1))) 11 0 (.int 0)) 11 1 (.int 0)) 14 0 (.int 0)) 15 0 (.int 0)) 16 0 (.int 0)) 14 1 (.int 0)) 15 1 (.int 0)) 16 1 (.int 0)) 14 2 (.int 0)) 15 2 (.int 0)) 16 2 (.int 0)) 44 7 (.int 0)) 44 0 (.int 0)) 44 1 (.int 0)) 44 2 (.int (-1))) 44 8 (.int 0)) (am_up (am_up (am_up (am_up (am_up (am_up (am_up (am_up (am_up (am_up (am_up (am_up (am_up (am_up (am_up (am_up (am_up (am_up (am_up (am_up (am_up (am_up (am_up (am_up (am_up g 164 2 (.int 0)) 164 6 (.int nn)) 164 1 (.int 0)) 164 4 (.int 0)) 164 5 (.int (-1))) 164 7 (.int 0)) 164 17 (.int 0)) 164 18 (.int 0)) 164 19 (.int 0)) 164 20 (.int 0)) 164 21 (.int 0)) 164 44 (.int 0)) 167 0 (.int 0)) 167 1 (.int 0)) 167 2 (.int 0)) 167 3 (.int 0)) 168 6 (.int 500)) 168 7 (.int 0)) 168 8 (.int 0)) 168 9 (.int 0)) 168 10 (.int 0)) 168 11 (.int 0)) 178 3 (.int 0)) 178 4 (.int 0)) 178 5 (.int 0)) := ⟨⟨rfl, rfl, rfl, by decide, (by rw [show (0 : Int32).toInt = 0 by decide]; omega), by omega, fun k hk_z => rfl, fun k hk_z => I6 k hk_z⟩, ⟨rfl, rfl, by decide, (by rw [show (0 : Int32).toInt = 0 by decide]; omega), by omega, fun k hk_z => I5 k (by omega), fun k hk_z => I7 k hk_z⟩, rfl, rfl⟩
          have A0 : rp 2 (am_up (am_up (am_up (am_up (am_up (am_up (am_up (am_up (am_up (am_up (am_up (am_up (am_up (am_up (am_up (am_up (am_up (am_up (am_up (am_up (am_up (am_up (am_up (am_up (am_up (am_up (am_up (am_up (am_up (am_up (am_up h 0 1 (.int 0)) 44 4 (.ref 1)) 44 5 (.int nn)) 44 6 (.ref 2)) 2 0 (.int 500)) 2 1 (.int 0)) 2 2 (.int 0)) 2 4 (.int 0)) 2 7 (.int 0)) 2 8 (.int 0)) 2 9 (.int 0)) 2 12 (.int 0)) 2 16 (.int 0)) 2 17 (.int 0)) 2 18 (.int (-1))) 11 0 (.int 0)) 11 1 (.int 0)) 14 0 (.int 0)) 15 0 (.int 0)) 16 0 (.int 0)) 14 1 (.int 0)) 15 1 (.int 0)) 16 1 (.int 0)) 14 2 (.int 0)) 15 2 (.int 0)) 16 2 (.int 0)) 44 7 (.int 0)) 44 0 (.int 0)) 44 1 (.int 0)) 44 2 (.int (-1))) 44 8 (.int 0)) (am_up (am_up (am_up (am_up (am_up (am_up (am_up (am_up (am_up (am_up (am_up (am_up (am_up (am_up (am_up (am_up (am_up (am_up (am_up (am_up (am_up (am_up (am_up (am_up (am_up g 164 2 (.int 0)) 164 6 (.int nn)) 164 1 (.int 0)) 164 4 (.int 0)) 164 5 (.int (-1))) 164 7 (.int 0)) 164 17 (.int 0)) 164 18 (.int 0)) 164 19 (.int 0)) 164 20 (.int 0)) 164 21 (.int 0)) 164 44 (.int 0)) 167 0 (.int 0)) 167 1 (.int 0)) 167 2 (.int 0)) 167 3 (.int 0)) 168 6 (.int 500)) 168 7 (.int 0)) 168 8 (.int 0)) 168 9 (.int 0)) 168 10 (.int 0)) 168 11 (.int 0)) 178 3 (.int 0)) 178 4 (.int 0)) 178 5 (.int 0)) := ⟨⟨rfl, rfl, rfl, rfl, rfl, rfl, rfl, rfl, rfl⟩, ⟨rfl, (show 0 ≤ (0 : Int32).toInt by decide), (show (0 : Int32).toInt ≤ 4 by decide)⟩, ⟨rfl, (show 0 ≤ (0 : Int32).toInt by decide), (show (0 : Int32).toInt ≤ 8 by decide)⟩, ⟨rfl, (show 0 ≤ (0 : Int32).toInt by decide), (show (0 : Int32).toInt ≤ 6 by decide)⟩, ⟨rfl, (show 0 ≤ (0 : Int32).toInt by decide), (show (0 : Int32).toInt ≤ 3 by decide)⟩, ⟨rfl, (show 0 ≤ (0 : Int32).toInt by decide), (show (0 : Int32).toInt ≤ 64 by decide)⟩, ⟨fun hb_z => absurd hb_z (by show ¬ ((0 : Nat) : Int) < (0 : Int32).toInt; decide), fun hb_z => absurd hb_z (by show ¬ ((1 : Nat) : Int) < (0 : Int32).toInt; decide), fun hb_z => absurd hb_z (by show ¬ ((2 : Nat) : Int) < (0 : Int32).toInt; decide), fun hb_z => absurd hb_z (by show ¬ ((3 : Nat) : Int) < (0 : Int32).toInt; decide)⟩, fun t ht => absurd ht (by show ¬ (t : Int) < (0 : Int32).toInt; rw [show (0 : Int32).toInt = 0 by decide]; omega), fun t ht => absurd ht (by show ¬ (t : Int) < (0 : Int32).toInt; rw [show (0 : Int32).toInt = 0 by decide]; omega), fun t ht => absurd ht (by show ¬ (t : Int) < (0 : Int32).toInt; rw [show (0 : Int32).toInt = 0 by decide]; omega)⟩
          have B0 : rp_t (am_up (am_up (am_up (am_up (am_up (am_up (am_up (am_up (am_up (am_up (am_up (am_up (am_up (am_up (am_up (am_up (am_up (am_up (am_up (am_up (am_up (am_up (am_up (am_up (am_up (am_up (am_up (am_up (am_up (am_up (am_up h 0 1 (.int 0)) 44 4 (.ref 1)) 44 5 (.int nn)) 44 6 (.ref 2)) 2 0 (.int 500)) 2 1 (.int 0)) 2 2 (.int 0)) 2 4 (.int 0)) 2 7 (.int 0)) 2 8 (.int 0)) 2 9 (.int 0)) 2 12 (.int 0)) 2 16 (.int 0)) 2 17 (.int 0)) 2 18 (.int (-1))) 11 0 (.int 0)) 11 1 (.int 0)) 14 0 (.int 0)) 15 0 (.int 0)) 16 0 (.int 0)) 14 1 (.int 0)) 15 1 (.int 0)) 16 1 (.int 0)) 14 2 (.int 0)) 15 2 (.int 0)) 16 2 (.int 0)) 44 7 (.int 0)) 44 0 (.int 0)) 44 1 (.int 0)) 44 2 (.int (-1))) 44 8 (.int 0)) (am_up (am_up (am_up (am_up (am_up (am_up (am_up (am_up (am_up (am_up (am_up (am_up (am_up (am_up (am_up (am_up (am_up (am_up (am_up (am_up (am_up (am_up (am_up (am_up (am_up g 164 2 (.int 0)) 164 6 (.int nn)) 164 1 (.int 0)) 164 4 (.int 0)) 164 5 (.int (-1))) 164 7 (.int 0)) 164 17 (.int 0)) 164 18 (.int 0)) 164 19 (.int 0)) 164 20 (.int 0)) 164 21 (.int 0)) 164 44 (.int 0)) 167 0 (.int 0)) 167 1 (.int 0)) 167 2 (.int 0)) 167 3 (.int 0)) 168 6 (.int 500)) 168 7 (.int 0)) 168 8 (.int 0)) 168 9 (.int 0)) 168 10 (.int 0)) 168 11 (.int 0)) 178 3 (.int 0)) 178 4 (.int 0)) 178 5 (.int 0)) := ⟨false, false, false, false, false, false, false, rfl, rfl, rfl, rfl, rfl, rfl, rfl, rfl⟩
          obtain ⟨-, -, x2_z, p2_z, R2, le2_z, t5_z, t6_z⟩ := pr_tok R0 q307_z q316_z
          have A2 := rp_x (by decide) A0 (rx_C_f t5_z) (rx_M_f t6_z)
          have B2 := rp_tk B0 (rg_v_fr t5_z (by decide)) (fun k => rg_v_fr t6_z (rg_v_in (by decide) k)) (rx_M_f t6_z)
          have hz0_z : zM g h315_z ∧ yk g h315_z := ⟨zM_t (zM_u (by decide) (zM_u (by decide) (zM_u (by decide) (zM_u (by decide) (zM_u (by decide) (zM_u (by decide) (zM_u (by decide) (zM_u (by decide) (zM_u (by decide) (zM_u (by decide) (zM_u (by decide) (zM_u (by decide) (zM_u (by decide) (zM_u (by decide) (zM_u (by decide) (zM_u (by decide) (zM_u (by decide) (zM_u (by decide) (zM_u (by decide) (zM_u (by decide) (zM_u (by decide) (zM_u (by decide) (zM_u (by decide) (zM_u (by decide) (zM_u (by decide) zM_r))))))))))))))))))))))))) (zM_x (rx_M_f t6_z)), yk_t (yk_u (by decide) (yk_u (by decide) (yk_u (by decide) (yk_u (by decide) (yk_u (by decide) (yk_u (by decide) (yk_u (by decide) (yk_u (by decide) (yk_u (by decide) (yk_u (by decide) (yk_u (by decide) (yk_u (by decide) (yk_u (by decide) (yk_u (by decide) (yk_u (by decide) (yk_u (by decide) (yk_u (by decide) (yk_u (by decide) (yk_u (by decide) (yk_u (by decide) (yk_u (by decide) (yk_u (by decide) (yk_u (by decide) (yk_u (by decide) (yk_u (by decide) yk_r))))))))))))))))))))))))) (yk_of (a := 151) (by decide) rfl q316_z)⟩
          have p0_z := R2.2.2.2.2.2.2.1
          have el : rg_v h306_z 44 0 = 0 := rg_v_fr t5_z (by decide)
          replace hm_z : rn _ _ _ _ [] _ _ _ := hm_z
          replace q300_z : rn _ _ _ _ [] _ _ _ := q300_z
          replace hm_z := rn_iconst (w := 0) (am_cur_of (i := (53, 1, .iconst 0, (0, 0, 0), 0)) (by decide +kernel)) (by decide) hm_z
          replace hm_z := rn_istore_n (am_cur_of (i := (54, 1, .istore_n 2, (0, 0, 0), 0)) (by decide +kernel)) hm_z
          obtain ⟨_, s317_z, s318_z, g2m, hm_z⟩ := hm_z
          replace g0m := s317_z 0 _ (by decide) rfl g0m
          replace g1m := s317_z 1 _ (by decide) rfl g1m
          clear s317_z s318_z
          have K0 := rf_keep rf_k0 rf_0all (a := 18) (by decide) rfl QQ
          have D1 : h299_z 0 3 = .ref 2 := (K0 3).trans D
          have D2 : h299_z 0 2 = .ref 23 := (K0 2).trans E
          replace q300_z := rn_iconst (w := 0) (am_cur_of (i := (51, 1, .iconst 0, (0, 0, 0), 0)) (by decide +kernel)) (by decide) q300_z
          replace q300_z := rn_istore (am_cur_of (i := (52, 2, .istore 4, (0, 0, 0), 0)) (by decide +kernel)) q300_z
          obtain ⟨_, s319_z, s320_z, g4r, q300_z⟩ := q300_z
          replace g0r := s319_z 0 _ (by decide) rfl g0r
          replace g1r := s319_z 1 _ (by decide) rfl g1r
          replace g2r := s319_z 2 _ (by decide) rfl g2r
          replace g3r := s319_z 3 _ (by decide) rfl g3r
          clear s319_z s320_z
          have TL := tl2_z _ 0 0 x2_z p2_z _ _ _ _ _ (by decide) (by rw [show (0 : Int32).toInt = 0 by decide]; exact p0_z) R2 A2 B2 hz0_z g0r g4r g0m g2m el q300_z hm_z
          rcases TL with ⟨rfl, e2_z, hqq, gqq, m1_z, m2_z, Aq, Dq, fq, r54_z, r144_z⟩ | ⟨rfl, e2_z, FF, ZZ⟩
          · replace hc_z : rn _ _ _ _ [.int 1] _ _ _ := hc_z
            replace hc_z := rn_ifT (am_cur_of (i := (36, 3, .ifCond .ne 5, (22, 0, 0), 0)) (by decide +kernel)) (by decide) hc_z
            replace hc_z := rn_aload_n (am_cur_of (i := (41, 1, .aload_n 0, (0, 0, 0), 0)) (by decide +kernel)) g0_z hc_z
            replace hc_z := rn_getM (x := 2) (am_cur_of (i := (42, 3, .getfield 22, (0, 3, 664), 0)) (by decide +kernel)) D1 hc_z
            replace hc_z := rn_astore_n (am_cur_of (i := (45, 1, .astore_n 2, (0, 0, 0), 0)) (by decide +kernel)) hc_z
            obtain ⟨_, s321_z, s322_z, g2_z, hc_z⟩ := hc_z
            replace g0_z := s321_z 0 _ (by decide) rfl g0_z
            replace g1_z := s321_z 1 _ (by decide) rfl g1_z
            clear s321_z s322_z
            replace hc_z := rn_aload_n (am_cur_of (i := (46, 1, .aload_n 0, (0, 0, 0), 0)) (by decide +kernel)) g0_z hc_z
            replace hc_z := rn_aload_n (am_cur_of (i := (47, 1, .aload_n 0, (0, 0, 0), 0)) (by decide +kernel)) g0_z hc_z
            replace hc_z := rn_getM (x := 23) (am_cur_of (i := (48, 3, .getfield 18, (0, 2, 663), 0)) (by decide +kernel)) D2 hc_z
            replace hc_z := rn_put (am_cur_of (i := (51, 3, .putfield 22, (0, 3, 664), 0)) (by decide +kernel)) (by decide +kernel) hc_z
            replace hc_z := rn_aload_n (am_cur_of (i := (54, 1, .aload_n 0, (0, 0, 0), 0)) (by decide +kernel)) g0_z hc_z
            replace hc_z := rn_aload_n (am_cur_of (i := (55, 1, .aload_n 2, (0, 0, 0), 0)) (by decide +kernel)) g2_z hc_z
            replace hc_z := rn_put (am_cur_of (i := (56, 3, .putfield 18, (0, 2, 663), 0)) (by decide +kernel)) (by decide +kernel) hc_z
            replace hc_z := rn_aload_n (am_cur_of (i := (59, 1, .aload_n 0, (0, 0, 0), 0)) (by decide +kernel)) g0_z hc_z
            replace hc_z := rn_getR (x := 48) (am_cur_of (i := (60, 3, .getfield 37, (0, 5, 666), 0)) (by decide +kernel)) (by decide +kernel) hc_z
            replace hc_z := rn_aload_n (am_cur_of (i := (63, 1, .aload_n 0, (0, 0, 0), 0)) (by decide +kernel)) g0_z hc_z
            replace hc_z := rn_getM (x := 2) (am_cur_of (i := (64, 3, .getfield 18, (0, 2, 663), 0)) (by decide +kernel)) rfl hc_z
            replace hc_z := rn_callV (M' := am_m14) (o := 48) (ar := [.ref 2]) (rest := []) (L := lv_args 0 [.ref 48, .ref 2]) (am_cur_of (i := (67, 3, .invokevirtual 96, (14, 657, 3), 0)) (by decide +kernel)) rfl rfl rfl rfl hc_z
            obtain ⟨r323_z, h324_z, q325_z, hc_z⟩ := hc_z
            have vo := rn_void rfl q325_z
            subst vo
            have k14_z := rf_v4 (a := 14) (by decide) rfl q325_z 0
            replace hc_z : rn _ _ _ _ [] _ _ _ := hc_z
            have q14_z := rf_keep rf_k0 rf_zall (a := 14) (by decide) rfl q325_z
            replace hc_z := rn_aload_n (am_cur_of (i := (70, 1, .aload_n 0, (0, 0, 0), 0)) (by decide +kernel)) g0_z hc_z
            replace hc_z := rn_getR (x := 60) (am_cur_of (i := (71, 3, .getfield 50, (0, 9, 670), 0)) (by decide +kernel)) (by decide +kernel) hc_z
            replace hc_z := rn_callV (M' := am_m57) (o := 60) (ar := []) (rest := []) (L := lv_args 0 [.ref 60]) (am_cur_of (i := (74, 3, .invokevirtual 111, (57, 886, 3), 0)) (by decide +kernel)) rfl rfl rfl rfl hc_z
            obtain ⟨r326_z, h327_z, q328_z, hc_z⟩ := hc_z
            have vo := rn_void rfl q328_z
            subst vo
            have k57_z := rf_v4 (a := 57) (by decide) rfl q328_z 0
            replace hc_z : rn _ _ _ _ [] _ _ _ := hc_z
            have q57_z := rf_keep rf_k0 rf_zall (a := 57) (by decide) rfl q328_z
            replace hc_z := rn_aload_n (am_cur_of (i := (77, 1, .aload_n 0, (0, 0, 0), 0)) (by decide +kernel)) g0_z hc_z
            replace hc_z := rn_getR (x := 142) (am_cur_of (i := (78, 3, .getfield 57, (0, 10, 671), 0)) (by decide +kernel)) (by decide +kernel) hc_z
            replace hc_z := rn_callV (M' := am_m58) (o := 142) (ar := []) (rest := []) (L := lv_args 0 [.ref 142]) (am_cur_of (i := (81, 3, .invokevirtual 114, (58, 890, 3), 0)) (by decide +kernel)) rfl rfl rfl rfl hc_z
            obtain ⟨r329_z, h330_z, q331_z, hc_z⟩ := hc_z
            have vo := rn_void rfl q331_z
            subst vo
            have k58_z := rf_v4 (a := 58) (by decide) rfl q331_z 0
            replace hc_z : rn _ _ _ _ [] _ _ _ := hc_z
            have q58_z := rf_keep rf_k0 rf_zall (a := 58) (by decide) rfl q331_z
            replace hc_z := rn_aload_n (am_cur_of (i := (84, 1, .aload_n 0, (0, 0, 0), 0)) (by decide +kernel)) g0_z hc_z
            replace hc_z := rn_iconst (w := 0) (am_cur_of (i := (85, 1, .iconst 0, (0, 0, 0), 0)) (by decide +kernel)) (by decide) hc_z
            replace hc_z := rn_put (am_cur_of (i := (86, 3, .putfield 115, (0, 8, 669), 0)) (by decide +kernel)) (by decide +kernel) hc_z
            replace hc_z := rn_aload_n (am_cur_of (i := (89, 1, .aload_n 0, (0, 0, 0), 0)) (by decide +kernel)) g0_z hc_z
            replace hc_z := rn_getR (x := 44) (am_cur_of (i := (90, 3, .getfield 30, (0, 4, 665), 0)) (by decide +kernel)) (by decide +kernel) hc_z
            replace hc_z := rn_getI (v := rg_v h330_z 44 0) (am_cur_of (i := (93, 3, .getfield 119, (4, 0, 407), 0)) (by decide +kernel)) (by decide +kernel) (show rg_v (am_up h330_z 0 8 (.int 0)) 44 0 = rg_v h330_z 44 0 from rfl) hc_z
            replace hc_z := rn_iret (am_cur_of (i := (96, 1, .ireturn, (0, 0, 0), 0)) (by decide +kernel)) hc_z
            obtain ⟨e332_z, e333_z⟩ := hc_z
            subst e333_z
            refine ⟨⟨_, e332_z, e2_z.trans ?_⟩, Or.inr ⟨((q58_z 3).trans ((q57_z 3).trans ((q14_z 3).trans (rfl : ((am_up (am_up h299_z 0 3 (.ref 23)) 0 2 (.ref 2))) 0 3 = _)))), ((q58_z 2).trans ((q57_z 2).trans ((q14_z 2).trans (rfl : ((am_up (am_up h299_z 0 3 (.ref 23)) 0 2 (.ref 2))) 0 2 = _))))⟩, Or.inr (Or.inr ⟨hqq, gqq, _, _, _, _, m1_z, m2_z, _, _, _, Aq, fq, r54_z, r144_z, q325_z, q328_z, q331_z, rfl, ((q58_z 2).trans ((q57_z 2).trans ((q14_z 2).trans (rfl : ((am_up (am_up h299_z 0 3 (.ref 23)) 0 2 (.ref 2))) 0 2 = _))))⟩)⟩
            exact congrArg (fun q => some (Value.int q)) (((k58_z.trans k57_z).trans k14_z).symm)
          · replace hc_z : rn _ _ _ _ [.int 0] _ _ _ := hc_z
            replace hc_z := rn_ifF (am_cur_of (i := (36, 3, .ifCond .ne 5, (22, 0, 0), 0)) (by decide +kernel)) (by decide) hc_z
            replace hc_z := rn_iconst (w := (-1)) (am_cur_of (i := (39, 1, .iconst (-1), (0, 0, 0), 0)) (by decide +kernel)) (by decide) hc_z
            replace hc_z := rn_iret (am_cur_of (i := (40, 1, .ireturn, (0, 0, 0), 0)) (by decide +kernel)) hc_z
            obtain ⟨e334_z, e335_z⟩ := hc_z
            replace e335_z := e335_z.symm
            subst e335_z
            exact ⟨⟨_, e334_z, e2_z⟩, Or.inl ⟨D1, D2⟩, Or.inr (Or.inl ⟨FF, zC_t (zC_u rfl zC_r) (cz_z (by decide) (cz2_z QQ)), ZZ.1, D2, fun o k ho h0_z => (rx_18 (by decide) QQ o k ho).trans (up_ne (fun q => h0_z q.1)), ZZ.2⟩)⟩
        · replace b309_z : t.toInt < nn.toInt := b309_z
          omega
    · replace b297_z : t.toInt < nn.toInt := b297_z
      replace hc_z := rn_bipush (w := (-2)) (am_cur_of (i := (12, 2, .bipush (-2), (0, 0, 0), 0)) (by decide +kernel)) (by decide) hc_z
      replace hc_z := rn_iret (am_cur_of (i := (14, 1, .ireturn, (0, 0, 0), 0)) (by decide +kernel)) hc_z
      obtain ⟨e336_z, e337_z⟩ := hc_z
      replace e337_z := e337_z.symm
      subst e337_z
      replace hm_z := rn_aload_n (am_cur_of (i := (0, 1, .aload_n 0, (0, 0, 0), 0)) (by decide +kernel)) g0m hm_z
      replace hm_z := rn_iconst (w := 0) (am_cur_of (i := (1, 1, .iconst 0, (0, 0, 0), 0)) (by decide +kernel)) (by decide) hm_z
      replace hm_z := rn_put (am_cur_of (i := (2, 3, .putfield 139, (12, 2, 1386), 0)) (by decide +kernel)) (by decide +kernel) hm_z
      replace hm_z := rn_iload_n (am_cur_of (i := (5, 1, .iload_n 1, (0, 0, 0), 0)) (by decide +kernel)) g1m hm_z
      replace hm_z := rn_if (am_cur_of (i := (6, 3, .ifCond .lt 11, (9, 0, 0), 0)) (by decide +kernel)) hm_z
      rcases hm_z with ⟨b338_z, hm_z⟩ | ⟨b338_z, hm_z⟩
      · replace b338_z : nn.toInt < (0 : Int32).toInt := b338_z
        omega
      · replace b338_z : (0 : Int32).toInt ≤ nn.toInt := b338_z
        replace hm_z := rn_iload_n (am_cur_of (i := (9, 1, .iload_n 1, (0, 0, 0), 0)) (by decide +kernel)) g1m hm_z
        replace hm_z := rn_aload_n (am_cur_of (i := (10, 1, .aload_n 0, (0, 0, 0), 0)) (by decide +kernel)) g0m hm_z
        replace hm_z := rn_getI (v := t) (am_cur_of (i := (11, 3, .getfield 142, (12, 1, 1385), 0)) (by decide +kernel)) (by decide +kernel) (show rg_v (am_up g 164 2 (.int 0)) 164 1 = t from I2) hm_z
        replace hm_z := rn_cmp (am_cur_of (i := (14, 3, .if_icmp .le 6, (11, 0, 0), 0)) (by decide +kernel)) hm_z
        rcases hm_z with ⟨b339_z, hm_z⟩ | ⟨b339_z, hm_z⟩
        · replace b339_z : nn.toInt ≤ t.toInt := b339_z
          omega
        · replace b339_z : t.toInt < nn.toInt := b339_z
          replace hm_z := rn_bipush (w := (-2)) (am_cur_of (i := (17, 2, .bipush (-2), (0, 0, 0), 0)) (by decide +kernel)) (by decide) hm_z
          replace hm_z := rn_iret (am_cur_of (i := (19, 1, .ireturn, (0, 0, 0), 0)) (by decide +kernel)) hm_z
          obtain ⟨e340_z, e341_z⟩ := hm_z
          exact ⟨⟨_, e336_z, e340_z⟩, Or.inl ⟨D, E⟩, Or.inl ⟨rfl, e341_z⟩⟩
theorem tx23_z {n n' : Nat} {h h' g g' : am_H} {r r' : Option Value} {t nn : Int32} (I : tx_I t h g) (D : h 0 3 = .ref 23) (E : h 0 2 = .ref 2) (hc_z : rn n am_m17 0 (lv_args 0 [.ref 0, .int nn]) [] h r h') (hm_z : rn n' am_m150 0 (lv_args 0 [.ref 164, .int nn]) [] g r' g') : (∃ v, r = some (.int v) ∧ r' = some (.int v)) ∧ tx_D h' ∧ tx_O 23 h g h' g' := by
  have z0_z : (0 : Int32).toInt = 0 := by decide
  have g0_z : am_get (lv_args 0 [.ref 0, .int nn]) 0 = some (.ref 0) := rfl
  have g1_z : am_get (lv_args 0 [.ref 0, .int nn]) 1 = some (.int nn) := rfl
  have g0m : am_get (lv_args 0 [.ref 164, .int nn]) 0 = some (.ref 164) := rfl
  have g1m : am_get (lv_args 0 [.ref 164, .int nn]) 1 = some (.int nn) := rfl
  obtain ⟨I1, I2, I3, I4, I5, I6, I7⟩ := I
  replace hc_z := rn_iload_n (am_cur_of (i := (0, 1, .iload_n 1, (0, 0, 0), 0)) (by decide +kernel)) g1_z hc_z
  replace hc_z := rn_if (am_cur_of (i := (1, 3, .ifCond .lt 11, (6, 0, 0), 0)) (by decide +kernel)) hc_z
  rcases hc_z with ⟨b342_z, hc_z⟩ | ⟨b342_z, hc_z⟩
  · replace b342_z : nn.toInt < (0 : Int32).toInt := b342_z
    replace hc_z := rn_bipush (w := (-2)) (am_cur_of (i := (12, 2, .bipush (-2), (0, 0, 0), 0)) (by decide +kernel)) (by decide) hc_z
    replace hc_z := rn_iret (am_cur_of (i := (14, 1, .ireturn, (0, 0, 0), 0)) (by decide +kernel)) hc_z
    obtain ⟨e343_z, e344_z⟩ := hc_z
    replace e344_z := e344_z.symm
    subst e344_z
    replace hm_z := rn_aload_n (am_cur_of (i := (0, 1, .aload_n 0, (0, 0, 0), 0)) (by decide +kernel)) g0m hm_z
    replace hm_z := rn_iconst (w := 0) (am_cur_of (i := (1, 1, .iconst 0, (0, 0, 0), 0)) (by decide +kernel)) (by decide) hm_z
    replace hm_z := rn_put (am_cur_of (i := (2, 3, .putfield 139, (12, 2, 1386), 0)) (by decide +kernel)) (by decide +kernel) hm_z
    replace hm_z := rn_iload_n (am_cur_of (i := (5, 1, .iload_n 1, (0, 0, 0), 0)) (by decide +kernel)) g1m hm_z
    replace hm_z := rn_if (am_cur_of (i := (6, 3, .ifCond .lt 11, (9, 0, 0), 0)) (by decide +kernel)) hm_z
    rcases hm_z with ⟨b345_z, hm_z⟩ | ⟨b345_z, hm_z⟩
    · replace b345_z : nn.toInt < (0 : Int32).toInt := b345_z
      replace hm_z := rn_bipush (w := (-2)) (am_cur_of (i := (17, 2, .bipush (-2), (0, 0, 0), 0)) (by decide +kernel)) (by decide) hm_z
      replace hm_z := rn_iret (am_cur_of (i := (19, 1, .ireturn, (0, 0, 0), 0)) (by decide +kernel)) hm_z
      obtain ⟨e346_z, e347_z⟩ := hm_z
      exact ⟨⟨_, e343_z, e346_z⟩, Or.inr ⟨D, E⟩, Or.inl ⟨rfl, e347_z⟩⟩
    · replace b345_z : (0 : Int32).toInt ≤ nn.toInt := b345_z
      omega
  · replace b342_z : (0 : Int32).toInt ≤ nn.toInt := b342_z
    replace hc_z := rn_iload_n (am_cur_of (i := (4, 1, .iload_n 1, (0, 0, 0), 0)) (by decide +kernel)) g1_z hc_z
    replace hc_z := rn_aload_n (am_cur_of (i := (5, 1, .aload_n 0, (0, 0, 0), 0)) (by decide +kernel)) g0_z hc_z
    replace hc_z := rn_getI (v := t) (am_cur_of (i := (6, 3, .getfield 99, (0, 1, 662), 0)) (by decide +kernel)) (by decide +kernel) I1 hc_z
    replace hc_z := rn_cmp (am_cur_of (i := (9, 3, .if_icmp .le 6, (8, 0, 0), 0)) (by decide +kernel)) hc_z
    rcases hc_z with ⟨b348_z, hc_z⟩ | ⟨b348_z, hc_z⟩
    · replace b348_z : nn.toInt ≤ t.toInt := b348_z
      replace hc_z := rn_aload_n (am_cur_of (i := (15, 1, .aload_n 0, (0, 0, 0), 0)) (by decide +kernel)) g0_z hc_z
      replace hc_z := rn_iconst (w := 0) (am_cur_of (i := (16, 1, .iconst 0, (0, 0, 0), 0)) (by decide +kernel)) (by decide) hc_z
      replace hc_z := rn_put (am_cur_of (i := (17, 3, .putfield 99, (0, 1, 662), 0)) (by decide +kernel)) (by decide +kernel) hc_z
      replace hc_z := rn_aload_n (am_cur_of (i := (20, 1, .aload_n 0, (0, 0, 0), 0)) (by decide +kernel)) g0_z hc_z
      replace hc_z := rn_getR (x := 44) (am_cur_of (i := (21, 3, .getfield 30, (0, 4, 665), 0)) (by decide +kernel)) (by decide +kernel) hc_z
      replace hc_z := rn_aload_n (am_cur_of (i := (24, 1, .aload_n 0, (0, 0, 0), 0)) (by decide +kernel)) g0_z hc_z
      replace hc_z := rn_getR (x := 1) (am_cur_of (i := (25, 3, .getfield 11, (0, 0, 661), 0)) (by decide +kernel)) (by decide +kernel) hc_z
      replace hc_z := rn_iload_n (am_cur_of (i := (28, 1, .iload_n 1, (0, 0, 0), 0)) (by decide +kernel)) g1_z hc_z
      replace hc_z := rn_aload_n (am_cur_of (i := (29, 1, .aload_n 0, (0, 0, 0), 0)) (by decide +kernel)) g0_z hc_z
      replace hc_z := rn_getM (x := 23) (am_cur_of (i := (30, 3, .getfield 22, (0, 3, 664), 0)) (by decide +kernel)) (show (am_up h 0 1 (.int 0)) 0 3 = .ref 23 from D) hc_z
      replace hc_z := rn_callV (M' := am_m18) (o := 44) (ar := [.ref 23, .int nn, .ref 1]) (rest := []) (L := lv_args 0 [.ref 44, .ref 1, .int nn, .ref 23]) (am_cur_of (i := (33, 3, .invokevirtual 107, (18, 722, 3), 0)) (by decide +kernel)) rfl rfl rfl rfl hc_z
      obtain ⟨r349_z, h350_z, q351_z, hc_z⟩ := hc_z
      have g0r : am_get (lv_args 0 [.ref 44, .ref 1, .int nn, .ref 23]) 0 = some (.ref 44) := rfl
      have g1r : am_get (lv_args 0 [.ref 44, .ref 1, .int nn, .ref 23]) 1 = some (.ref 1) := rfl
      have g2r : am_get (lv_args 0 [.ref 44, .ref 1, .int nn, .ref 23]) 2 = some (.int nn) := rfl
      have g3r : am_get (lv_args 0 [.ref 44, .ref 1, .int nn, .ref 23]) 3 = some (.ref 23) := rfl
      have QQ := q351_z
      replace q351_z := rn_aload_n (am_cur_of (i := (0, 1, .aload_n 0, (0, 0, 0), 0)) (by decide +kernel)) g0r q351_z
      replace q351_z := rn_aload_n (am_cur_of (i := (1, 1, .aload_n 1, (0, 0, 0), 0)) (by decide +kernel)) g1r q351_z
      replace q351_z := rn_put (am_cur_of (i := (2, 3, .putfield 19, (4, 4, 413), 0)) (by decide +kernel)) (by decide +kernel) q351_z
      replace q351_z := rn_aload_n (am_cur_of (i := (5, 1, .aload_n 0, (0, 0, 0), 0)) (by decide +kernel)) g0r q351_z
      replace q351_z := rn_iload_n (am_cur_of (i := (6, 1, .iload_n 2, (0, 0, 0), 0)) (by decide +kernel)) g2r q351_z
      replace q351_z := rn_put (am_cur_of (i := (7, 3, .putfield 37, (4, 5, 414), 0)) (by decide +kernel)) (by decide +kernel) q351_z
      replace q351_z := rn_aload_n (am_cur_of (i := (10, 1, .aload_n 0, (0, 0, 0), 0)) (by decide +kernel)) g0r q351_z
      replace q351_z := rn_aload_n (am_cur_of (i := (11, 1, .aload_n 3, (0, 0, 0), 0)) (by decide +kernel)) g3r q351_z
      replace q351_z := rn_put (am_cur_of (i := (12, 3, .putfield 25, (4, 6, 415), 0)) (by decide +kernel)) (by decide +kernel) q351_z
      replace q351_z := rn_aload_n (am_cur_of (i := (15, 1, .aload_n 0, (0, 0, 0), 0)) (by decide +kernel)) g0r q351_z
      replace q351_z := rn_getM (x := 23) (am_cur_of (i := (16, 3, .getfield 25, (4, 6, 415), 0)) (by decide +kernel)) rfl q351_z
      replace q351_z := rn_callV (M' := am_m4) (o := 23) (ar := []) (rest := []) (L := lv_args 0 [.ref 23]) (am_cur_of (i := (19, 3, .invokevirtual 40, (4, 726, 3), 0)) (by decide +kernel)) rfl rfl rfl rfl q351_z
      obtain ⟨r352_z, h353_z, q354_z, q351_z⟩ := q351_z
      rcases tx_c4_23 q354_z with ⟨rfl, y355_z⟩
      replace y355_z := y355_z.symm
      subst y355_z
      replace q351_z : rn _ _ _ _ [] _ _ _ := q351_z
      replace q351_z := rn_aload_n (am_cur_of (i := (22, 1, .aload_n 0, (0, 0, 0), 0)) (by decide +kernel)) g0r q351_z
      replace q351_z := rn_iconst (w := 0) (am_cur_of (i := (23, 1, .iconst 0, (0, 0, 0), 0)) (by decide +kernel)) (by decide) q351_z
      replace q351_z := rn_put (am_cur_of (i := (24, 3, .putfield 45, (4, 7, 416), 0)) (by decide +kernel)) (by decide +kernel) q351_z
      replace q351_z := rn_aload_n (am_cur_of (i := (27, 1, .aload_n 0, (0, 0, 0), 0)) (by decide +kernel)) g0r q351_z
      replace q351_z := rn_iconst (w := 0) (am_cur_of (i := (28, 1, .iconst 0, (0, 0, 0), 0)) (by decide +kernel)) (by decide) q351_z
      replace q351_z := rn_put (am_cur_of (i := (29, 3, .putfield 48, (4, 0, 406), 0)) (by decide +kernel)) (by decide +kernel) q351_z
      replace q351_z := rn_aload_n (am_cur_of (i := (32, 1, .aload_n 0, (0, 0, 0), 0)) (by decide +kernel)) g0r q351_z
      replace q351_z := rn_iconst (w := 0) (am_cur_of (i := (33, 1, .iconst 0, (0, 0, 0), 0)) (by decide +kernel)) (by decide) q351_z
      replace q351_z := rn_put (am_cur_of (i := (34, 3, .putfield 51, (4, 1, 408), 0)) (by decide +kernel)) (by decide +kernel) q351_z
      replace q351_z := rn_aload_n (am_cur_of (i := (37, 1, .aload_n 0, (0, 0, 0), 0)) (by decide +kernel)) g0r q351_z
      replace q351_z := rn_iconst (w := (-1)) (am_cur_of (i := (38, 1, .iconst (-1), (0, 0, 0), 0)) (by decide +kernel)) (by decide) q351_z
      replace q351_z := rn_put (am_cur_of (i := (39, 3, .putfield 9, (4, 2, 410), 0)) (by decide +kernel)) (by decide +kernel) q351_z
      replace q351_z := rn_aload_n (am_cur_of (i := (42, 1, .aload_n 0, (0, 0, 0), 0)) (by decide +kernel)) g0r q351_z
      replace q351_z := rn_iconst (w := 0) (am_cur_of (i := (43, 1, .iconst 0, (0, 0, 0), 0)) (by decide +kernel)) (by decide) q351_z
      replace q351_z := rn_put (am_cur_of (i := (44, 3, .putfield 54, (4, 8, 417), 0)) (by decide +kernel)) (by decide +kernel) q351_z
      replace q351_z := rn_aload_n (am_cur_of (i := (47, 1, .aload_n 0, (0, 0, 0), 0)) (by decide +kernel)) g0r q351_z
      replace q351_z := rn_callV (M' := am_m19) (o := 44) (ar := []) (rest := []) (L := lv_args 0 [.ref 44]) (am_cur_of (i := (48, 3, .invokevirtual 57, (19, 727, 3), 0)) (by decide +kernel)) rfl rfl rfl rfl q351_z
      obtain ⟨r356_z, h357_z, q358_z, q351_z⟩ := q351_z
      have vo := rn_void rfl q358_z
      subst vo
      replace hm_z := rn_aload_n (am_cur_of (i := (0, 1, .aload_n 0, (0, 0, 0), 0)) (by decide +kernel)) g0m hm_z
      replace hm_z := rn_iconst (w := 0) (am_cur_of (i := (1, 1, .iconst 0, (0, 0, 0), 0)) (by decide +kernel)) (by decide) hm_z
      replace hm_z := rn_put (am_cur_of (i := (2, 3, .putfield 139, (12, 2, 1386), 0)) (by decide +kernel)) (by decide +kernel) hm_z
      replace hm_z := rn_iload_n (am_cur_of (i := (5, 1, .iload_n 1, (0, 0, 0), 0)) (by decide +kernel)) g1m hm_z
      replace hm_z := rn_if (am_cur_of (i := (6, 3, .ifCond .lt 11, (9, 0, 0), 0)) (by decide +kernel)) hm_z
      rcases hm_z with ⟨b359_z, hm_z⟩ | ⟨b359_z, hm_z⟩
      · replace b359_z : nn.toInt < (0 : Int32).toInt := b359_z
        omega
      · replace b359_z : (0 : Int32).toInt ≤ nn.toInt := b359_z
        replace hm_z := rn_iload_n (am_cur_of (i := (9, 1, .iload_n 1, (0, 0, 0), 0)) (by decide +kernel)) g1m hm_z
        replace hm_z := rn_aload_n (am_cur_of (i := (10, 1, .aload_n 0, (0, 0, 0), 0)) (by decide +kernel)) g0m hm_z
        replace hm_z := rn_getI (v := t) (am_cur_of (i := (11, 3, .getfield 142, (12, 1, 1385), 0)) (by decide +kernel)) (by decide +kernel) (show rg_v (am_up g 164 2 (.int 0)) 164 1 = t from I2) hm_z
        replace hm_z := rn_cmp (am_cur_of (i := (14, 3, .if_icmp .le 6, (11, 0, 0), 0)) (by decide +kernel)) hm_z
        rcases hm_z with ⟨b360_z, hm_z⟩ | ⟨b360_z, hm_z⟩
        · replace b360_z : nn.toInt ≤ t.toInt := b360_z
          replace hm_z := rn_aload_n (am_cur_of (i := (20, 1, .aload_n 0, (0, 0, 0), 0)) (by decide +kernel)) g0m hm_z
          replace hm_z := rn_iload_n (am_cur_of (i := (21, 1, .iload_n 1, (0, 0, 0), 0)) (by decide +kernel)) g1m hm_z
          replace hm_z := rn_put (am_cur_of (i := (22, 3, .putfield 151, (12, 6, 1390), 0)) (by decide +kernel)) (by decide +kernel) hm_z
          replace hm_z := rn_aload_n (am_cur_of (i := (25, 1, .aload_n 0, (0, 0, 0), 0)) (by decide +kernel)) g0m hm_z
          replace hm_z := rn_iconst (w := 0) (am_cur_of (i := (26, 1, .iconst 0, (0, 0, 0), 0)) (by decide +kernel)) (by decide) hm_z
          replace hm_z := rn_put (am_cur_of (i := (27, 3, .putfield 142, (12, 1, 1385), 0)) (by decide +kernel)) (by decide +kernel) hm_z
          replace hm_z := rn_aload_n (am_cur_of (i := (30, 1, .aload_n 0, (0, 0, 0), 0)) (by decide +kernel)) g0m hm_z
          replace hm_z := rn_iconst (w := 0) (am_cur_of (i := (31, 1, .iconst 0, (0, 0, 0), 0)) (by decide +kernel)) (by decide) hm_z
          replace hm_z := rn_put (am_cur_of (i := (32, 3, .putfield 145, (12, 4, 1388), 0)) (by decide +kernel)) (by decide +kernel) hm_z
          replace hm_z := rn_aload_n (am_cur_of (i := (35, 1, .aload_n 0, (0, 0, 0), 0)) (by decide +kernel)) g0m hm_z
          replace hm_z := rn_iconst (w := (-1)) (am_cur_of (i := (36, 1, .iconst (-1), (0, 0, 0), 0)) (by decide +kernel)) (by decide) hm_z
          replace hm_z := rn_put (am_cur_of (i := (37, 3, .putfield 16, (12, 5, 1389), 0)) (by decide +kernel)) (by decide +kernel) hm_z
          replace hm_z := rn_aload_n (am_cur_of (i := (40, 1, .aload_n 0, (0, 0, 0), 0)) (by decide +kernel)) g0m hm_z
          replace hm_z := rn_iconst (w := 0) (am_cur_of (i := (41, 1, .iconst 0, (0, 0, 0), 0)) (by decide +kernel)) (by decide) hm_z
          replace hm_z := rn_put (am_cur_of (i := (42, 3, .putfield 154, (12, 7, 1391), 0)) (by decide +kernel)) (by decide +kernel) hm_z
          replace hm_z := rn_aload_n (am_cur_of (i := (45, 1, .aload_n 0, (0, 0, 0), 0)) (by decide +kernel)) g0m hm_z
          replace hm_z := rn_callV (M' := am_m143) (o := 164) (ar := []) (rest := []) (L := lv_args 0 [.ref 164]) (am_cur_of (i := (46, 3, .invokevirtual 133, (143, 1357, 3), 0)) (by decide +kernel)) rfl rfl rfl rfl hm_z
          obtain ⟨r361_z, h362_z, q363_z, hm_z⟩ := hm_z
          rcases tx_pl q363_z with ⟨rfl, y364_z⟩
          replace y364_z := y364_z.symm
          subst y364_z
          replace hm_z : rn _ _ _ _ [] _ _ _ := hm_z
          replace hm_z := rn_aload_n (am_cur_of (i := (49, 1, .aload_n 0, (0, 0, 0), 0)) (by decide +kernel)) g0m hm_z
          replace hm_z := rn_callV (M' := am_m151) (o := 164) (ar := []) (rest := []) (L := lv_args 0 [.ref 164]) (am_cur_of (i := (50, 3, .invokevirtual 191, (151, 1636, 3), 0)) (by decide +kernel)) rfl rfl rfl rfl hm_z
          obtain ⟨r365_z, h366_z, q367_z, hm_z⟩ := hm_z
          have vo := rn_void rfl q367_z
          subst vo
          have cn := rt_cl (x := nn) (by omega)
          have ct := rt_cl (x := t) (by omega)
          have R0 : rq0_z (fun k => rg_v h 1 k) nn 0 23 (am_up (am_up (am_up (am_up (am_up (am_up (am_up (am_up (am_up (am_up (am_up (am_up (am_up (am_up (am_up (am_up (am_up (am_up (am_up (am_up (am_up (am_up (am_up (am_up (am_up (am_up (am_up (am_up (am_up (am_up (am_up h 0 1 (.int 0)) 44 4 (.ref 1)) 44 5 (.int nn)) 44 6 (.ref 23)) 23 0 (.int 500)) 23 1 (.int 0)) 23 2 (.int 0)) 23 4 (.int 0)) 23 7 (.int 0)) 23 8 (.int 0)) 23 9 (.int 0)) 23 12 (.int 0)) 23 16 (.int 0)) 23 17 (.int 0)) 23 18 (.int (-1))) 32 0 (.int 0)) 32 1 (.int 0)) 35 0 (.int 0)) 36 0 (.int 0)) 37 0 (.int 0)) 35 1 (.int 0)) 36 1 (.int 0)) 37 1 (.int 0)) 35 2 (.int 0)) 36 2 (.int 0)) 37 2 (.int 0)) 44 7 (.int 0)) 44 0 (.int 0)) 44 1 (.int 0)) 44 2 (.int (-1))) 44 8 (.int 0)) (am_up (am_up (am_up (am_up (am_up (am_up (am_up (am_up (am_up (am_up (am_up (am_up (am_up (am_up (am_up (am_up (am_up (am_up (am_up (am_up (am_up (am_up (am_up (am_up (am_up g 164 2 (.int 0)) 164 6 (.int nn)) 164 1 (.int 0)) 164 4 (.int 0)) 164 5 (.int (-1))) 164 7 (.int 0)) 164 17 (.int 0)) 164 18 (.int 0)) 164 19 (.int 0)) 164 20 (.int 0)) 164 21 (.int 0)) 164 44 (.int 0)) 167 0 (.int 0)) 167 1 (.int 0)) 167 2 (.int 0)) 167 3 (.int 0)) 168 6 (.int 500)) 168 7 (.int 0)) 168 8 (.int 0)) 168 9 (.int 0)) 168 10 (.int 0)) 168 11 (.int 0)) 178 3 (.int 0)) 178 4 (.int 0)) 178 5 (.int 0)) := ⟨⟨rfl, rfl, rfl, by decide, (by rw [show (0 : Int32).toInt = 0 by decide]; omega), by omega, fun k hk_z => rfl, fun k hk_z => I6 k hk_z⟩, ⟨rfl, rfl, by decide, (by rw [show (0 : Int32).toInt = 0 by decide]; omega), by omega, fun k hk_z => I5 k (by omega), fun k hk_z => I7 k hk_z⟩, rfl, rfl⟩
          have A0 : rp 23 (am_up (am_up (am_up (am_up (am_up (am_up (am_up (am_up (am_up (am_up (am_up (am_up (am_up (am_up (am_up (am_up (am_up (am_up (am_up (am_up (am_up (am_up (am_up (am_up (am_up (am_up (am_up (am_up (am_up (am_up (am_up h 0 1 (.int 0)) 44 4 (.ref 1)) 44 5 (.int nn)) 44 6 (.ref 23)) 23 0 (.int 500)) 23 1 (.int 0)) 23 2 (.int 0)) 23 4 (.int 0)) 23 7 (.int 0)) 23 8 (.int 0)) 23 9 (.int 0)) 23 12 (.int 0)) 23 16 (.int 0)) 23 17 (.int 0)) 23 18 (.int (-1))) 32 0 (.int 0)) 32 1 (.int 0)) 35 0 (.int 0)) 36 0 (.int 0)) 37 0 (.int 0)) 35 1 (.int 0)) 36 1 (.int 0)) 37 1 (.int 0)) 35 2 (.int 0)) 36 2 (.int 0)) 37 2 (.int 0)) 44 7 (.int 0)) 44 0 (.int 0)) 44 1 (.int 0)) 44 2 (.int (-1))) 44 8 (.int 0)) (am_up (am_up (am_up (am_up (am_up (am_up (am_up (am_up (am_up (am_up (am_up (am_up (am_up (am_up (am_up (am_up (am_up (am_up (am_up (am_up (am_up (am_up (am_up (am_up (am_up g 164 2 (.int 0)) 164 6 (.int nn)) 164 1 (.int 0)) 164 4 (.int 0)) 164 5 (.int (-1))) 164 7 (.int 0)) 164 17 (.int 0)) 164 18 (.int 0)) 164 19 (.int 0)) 164 20 (.int 0)) 164 21 (.int 0)) 164 44 (.int 0)) 167 0 (.int 0)) 167 1 (.int 0)) 167 2 (.int 0)) 167 3 (.int 0)) 168 6 (.int 500)) 168 7 (.int 0)) 168 8 (.int 0)) 168 9 (.int 0)) 168 10 (.int 0)) 168 11 (.int 0)) 178 3 (.int 0)) 178 4 (.int 0)) 178 5 (.int 0)) := ⟨⟨rfl, rfl, rfl, rfl, rfl, rfl, rfl, rfl, rfl⟩, ⟨rfl, (show 0 ≤ (0 : Int32).toInt by decide), (show (0 : Int32).toInt ≤ 4 by decide)⟩, ⟨rfl, (show 0 ≤ (0 : Int32).toInt by decide), (show (0 : Int32).toInt ≤ 8 by decide)⟩, ⟨rfl, (show 0 ≤ (0 : Int32).toInt by decide), (show (0 : Int32).toInt ≤ 6 by decide)⟩, ⟨rfl, (show 0 ≤ (0 : Int32).toInt by decide), (show (0 : Int32).toInt ≤ 3 by decide)⟩, ⟨rfl, (show 0 ≤ (0 : Int32).toInt by decide), (show (0 : Int32).toInt ≤ 64 by decide)⟩, ⟨fun hb_z => absurd hb_z (by show ¬ ((0 : Nat) : Int) < (0 : Int32).toInt; decide), fun hb_z => absurd hb_z (by show ¬ ((1 : Nat) : Int) < (0 : Int32).toInt; decide), fun hb_z => absurd hb_z (by show ¬ ((2 : Nat) : Int) < (0 : Int32).toInt; decide), fun hb_z => absurd hb_z (by show ¬ ((3 : Nat) : Int) < (0 : Int32).toInt; decide)⟩, fun t ht => absurd ht (by show ¬ (t : Int) < (0 : Int32).toInt; rw [show (0 : Int32).toInt = 0 by decide]; omega), fun t ht => absurd ht (by show ¬ (t : Int) < (0 : Int32).toInt; rw [show (0 : Int32).toInt = 0 by decide]; omega), fun t ht => absurd ht (by show ¬ (t : Int) < (0 : Int32).toInt; rw [show (0 : Int32).toInt = 0 by decide]; omega)⟩
          have B0 : rp_t (am_up (am_up (am_up (am_up (am_up (am_up (am_up (am_up (am_up (am_up (am_up (am_up (am_up (am_up (am_up (am_up (am_up (am_up (am_up (am_up (am_up (am_up (am_up (am_up (am_up (am_up (am_up (am_up (am_up (am_up (am_up h 0 1 (.int 0)) 44 4 (.ref 1)) 44 5 (.int nn)) 44 6 (.ref 23)) 23 0 (.int 500)) 23 1 (.int 0)) 23 2 (.int 0)) 23 4 (.int 0)) 23 7 (.int 0)) 23 8 (.int 0)) 23 9 (.int 0)) 23 12 (.int 0)) 23 16 (.int 0)) 23 17 (.int 0)) 23 18 (.int (-1))) 32 0 (.int 0)) 32 1 (.int 0)) 35 0 (.int 0)) 36 0 (.int 0)) 37 0 (.int 0)) 35 1 (.int 0)) 36 1 (.int 0)) 37 1 (.int 0)) 35 2 (.int 0)) 36 2 (.int 0)) 37 2 (.int 0)) 44 7 (.int 0)) 44 0 (.int 0)) 44 1 (.int 0)) 44 2 (.int (-1))) 44 8 (.int 0)) (am_up (am_up (am_up (am_up (am_up (am_up (am_up (am_up (am_up (am_up (am_up (am_up (am_up (am_up (am_up (am_up (am_up (am_up (am_up (am_up (am_up (am_up (am_up (am_up (am_up g 164 2 (.int 0)) 164 6 (.int nn)) 164 1 (.int 0)) 164 4 (.int 0)) 164 5 (.int (-1))) 164 7 (.int 0)) 164 17 (.int 0)) 164 18 (.int 0)) 164 19 (.int 0)) 164 20 (.int 0)) 164 21 (.int 0)) 164 44 (.int 0)) 167 0 (.int 0)) 167 1 (.int 0)) 167 2 (.int 0)) 167 3 (.int 0)) 168 6 (.int 500)) 168 7 (.int 0)) 168 8 (.int 0)) 168 9 (.int 0)) 168 10 (.int 0)) 168 11 (.int 0)) 178 3 (.int 0)) 178 4 (.int 0)) 178 5 (.int 0)) := ⟨false, false, false, false, false, false, false, rfl, rfl, rfl, rfl, rfl, rfl, rfl, rfl⟩
          obtain ⟨-, -, x2_z, p2_z, R2, le2_z, t5_z, t6_z⟩ := pr_tok R0 q358_z q367_z
          have A2 := rp_x (by decide) A0 (rx_C_f t5_z) (rx_M_f t6_z)
          have B2 := rp_tk B0 (rg_v_fr t5_z (by decide)) (fun k => rg_v_fr t6_z (rg_v_in (by decide) k)) (rx_M_f t6_z)
          have hz0_z : zM g h366_z ∧ yk g h366_z := ⟨zM_t (zM_u (by decide) (zM_u (by decide) (zM_u (by decide) (zM_u (by decide) (zM_u (by decide) (zM_u (by decide) (zM_u (by decide) (zM_u (by decide) (zM_u (by decide) (zM_u (by decide) (zM_u (by decide) (zM_u (by decide) (zM_u (by decide) (zM_u (by decide) (zM_u (by decide) (zM_u (by decide) (zM_u (by decide) (zM_u (by decide) (zM_u (by decide) (zM_u (by decide) (zM_u (by decide) (zM_u (by decide) (zM_u (by decide) (zM_u (by decide) (zM_u (by decide) zM_r))))))))))))))))))))))))) (zM_x (rx_M_f t6_z)), yk_t (yk_u (by decide) (yk_u (by decide) (yk_u (by decide) (yk_u (by decide) (yk_u (by decide) (yk_u (by decide) (yk_u (by decide) (yk_u (by decide) (yk_u (by decide) (yk_u (by decide) (yk_u (by decide) (yk_u (by decide) (yk_u (by decide) (yk_u (by decide) (yk_u (by decide) (yk_u (by decide) (yk_u (by decide) (yk_u (by decide) (yk_u (by decide) (yk_u (by decide) (yk_u (by decide) (yk_u (by decide) (yk_u (by decide) (yk_u (by decide) (yk_u (by decide) yk_r))))))))))))))))))))))))) (yk_of (a := 151) (by decide) rfl q367_z)⟩
          have p0_z := R2.2.2.2.2.2.2.1
          have el : rg_v h357_z 44 0 = 0 := rg_v_fr t5_z (by decide)
          replace hm_z : rn _ _ _ _ [] _ _ _ := hm_z
          replace q351_z : rn _ _ _ _ [] _ _ _ := q351_z
          replace hm_z := rn_iconst (w := 0) (am_cur_of (i := (53, 1, .iconst 0, (0, 0, 0), 0)) (by decide +kernel)) (by decide) hm_z
          replace hm_z := rn_istore_n (am_cur_of (i := (54, 1, .istore_n 2, (0, 0, 0), 0)) (by decide +kernel)) hm_z
          obtain ⟨_, s368_z, s369_z, g2m, hm_z⟩ := hm_z
          replace g0m := s368_z 0 _ (by decide) rfl g0m
          replace g1m := s368_z 1 _ (by decide) rfl g1m
          clear s368_z s369_z
          have K0 := rf_keep rf_k0 rf_0all (a := 18) (by decide) rfl QQ
          have D1 : h350_z 0 3 = .ref 23 := (K0 3).trans D
          have D2 : h350_z 0 2 = .ref 2 := (K0 2).trans E
          replace q351_z := rn_iconst (w := 0) (am_cur_of (i := (51, 1, .iconst 0, (0, 0, 0), 0)) (by decide +kernel)) (by decide) q351_z
          replace q351_z := rn_istore (am_cur_of (i := (52, 2, .istore 4, (0, 0, 0), 0)) (by decide +kernel)) q351_z
          obtain ⟨_, s370_z, s371_z, g4r, q351_z⟩ := q351_z
          replace g0r := s370_z 0 _ (by decide) rfl g0r
          replace g1r := s370_z 1 _ (by decide) rfl g1r
          replace g2r := s370_z 2 _ (by decide) rfl g2r
          replace g3r := s370_z 3 _ (by decide) rfl g3r
          clear s370_z s371_z
          have TL := tl23_z _ 0 0 x2_z p2_z _ _ _ _ _ (by decide) (by rw [show (0 : Int32).toInt = 0 by decide]; exact p0_z) R2 A2 B2 hz0_z g0r g4r g0m g2m el q351_z hm_z
          rcases TL with ⟨rfl, e2_z, hqq, gqq, m1_z, m2_z, Aq, Dq, fq, r54_z, r144_z⟩ | ⟨rfl, e2_z, FF, ZZ⟩
          · replace hc_z : rn _ _ _ _ [.int 1] _ _ _ := hc_z
            replace hc_z := rn_ifT (am_cur_of (i := (36, 3, .ifCond .ne 5, (22, 0, 0), 0)) (by decide +kernel)) (by decide) hc_z
            replace hc_z := rn_aload_n (am_cur_of (i := (41, 1, .aload_n 0, (0, 0, 0), 0)) (by decide +kernel)) g0_z hc_z
            replace hc_z := rn_getM (x := 23) (am_cur_of (i := (42, 3, .getfield 22, (0, 3, 664), 0)) (by decide +kernel)) D1 hc_z
            replace hc_z := rn_astore_n (am_cur_of (i := (45, 1, .astore_n 2, (0, 0, 0), 0)) (by decide +kernel)) hc_z
            obtain ⟨_, s372_z, s373_z, g2_z, hc_z⟩ := hc_z
            replace g0_z := s372_z 0 _ (by decide) rfl g0_z
            replace g1_z := s372_z 1 _ (by decide) rfl g1_z
            clear s372_z s373_z
            replace hc_z := rn_aload_n (am_cur_of (i := (46, 1, .aload_n 0, (0, 0, 0), 0)) (by decide +kernel)) g0_z hc_z
            replace hc_z := rn_aload_n (am_cur_of (i := (47, 1, .aload_n 0, (0, 0, 0), 0)) (by decide +kernel)) g0_z hc_z
            replace hc_z := rn_getM (x := 2) (am_cur_of (i := (48, 3, .getfield 18, (0, 2, 663), 0)) (by decide +kernel)) D2 hc_z
            replace hc_z := rn_put (am_cur_of (i := (51, 3, .putfield 22, (0, 3, 664), 0)) (by decide +kernel)) (by decide +kernel) hc_z
            replace hc_z := rn_aload_n (am_cur_of (i := (54, 1, .aload_n 0, (0, 0, 0), 0)) (by decide +kernel)) g0_z hc_z
            replace hc_z := rn_aload_n (am_cur_of (i := (55, 1, .aload_n 2, (0, 0, 0), 0)) (by decide +kernel)) g2_z hc_z
            replace hc_z := rn_put (am_cur_of (i := (56, 3, .putfield 18, (0, 2, 663), 0)) (by decide +kernel)) (by decide +kernel) hc_z
            replace hc_z := rn_aload_n (am_cur_of (i := (59, 1, .aload_n 0, (0, 0, 0), 0)) (by decide +kernel)) g0_z hc_z
            replace hc_z := rn_getR (x := 48) (am_cur_of (i := (60, 3, .getfield 37, (0, 5, 666), 0)) (by decide +kernel)) (by decide +kernel) hc_z
            replace hc_z := rn_aload_n (am_cur_of (i := (63, 1, .aload_n 0, (0, 0, 0), 0)) (by decide +kernel)) g0_z hc_z
            replace hc_z := rn_getM (x := 23) (am_cur_of (i := (64, 3, .getfield 18, (0, 2, 663), 0)) (by decide +kernel)) rfl hc_z
            replace hc_z := rn_callV (M' := am_m14) (o := 48) (ar := [.ref 23]) (rest := []) (L := lv_args 0 [.ref 48, .ref 23]) (am_cur_of (i := (67, 3, .invokevirtual 96, (14, 657, 3), 0)) (by decide +kernel)) rfl rfl rfl rfl hc_z
            obtain ⟨r374_z, h375_z, q376_z, hc_z⟩ := hc_z
            have vo := rn_void rfl q376_z
            subst vo
            have k14_z := rf_v4 (a := 14) (by decide) rfl q376_z 0
            replace hc_z : rn _ _ _ _ [] _ _ _ := hc_z
            have q14_z := rf_keep rf_k0 rf_zall (a := 14) (by decide) rfl q376_z
            replace hc_z := rn_aload_n (am_cur_of (i := (70, 1, .aload_n 0, (0, 0, 0), 0)) (by decide +kernel)) g0_z hc_z
            replace hc_z := rn_getR (x := 60) (am_cur_of (i := (71, 3, .getfield 50, (0, 9, 670), 0)) (by decide +kernel)) (by decide +kernel) hc_z
            replace hc_z := rn_callV (M' := am_m57) (o := 60) (ar := []) (rest := []) (L := lv_args 0 [.ref 60]) (am_cur_of (i := (74, 3, .invokevirtual 111, (57, 886, 3), 0)) (by decide +kernel)) rfl rfl rfl rfl hc_z
            obtain ⟨r377_z, h378_z, q379_z, hc_z⟩ := hc_z
            have vo := rn_void rfl q379_z
            subst vo
            have k57_z := rf_v4 (a := 57) (by decide) rfl q379_z 0
            replace hc_z : rn _ _ _ _ [] _ _ _ := hc_z
            have q57_z := rf_keep rf_k0 rf_zall (a := 57) (by decide) rfl q379_z
            replace hc_z := rn_aload_n (am_cur_of (i := (77, 1, .aload_n 0, (0, 0, 0), 0)) (by decide +kernel)) g0_z hc_z
            replace hc_z := rn_getR (x := 142) (am_cur_of (i := (78, 3, .getfield 57, (0, 10, 671), 0)) (by decide +kernel)) (by decide +kernel) hc_z
            replace hc_z := rn_callV (M' := am_m58) (o := 142) (ar := []) (rest := []) (L := lv_args 0 [.ref 142]) (am_cur_of (i := (81, 3, .invokevirtual 114, (58, 890, 3), 0)) (by decide +kernel)) rfl rfl rfl rfl hc_z
            obtain ⟨r380_z, h381_z, q382_z, hc_z⟩ := hc_z
            have vo := rn_void rfl q382_z
            subst vo
            have k58_z := rf_v4 (a := 58) (by decide) rfl q382_z 0
            replace hc_z : rn _ _ _ _ [] _ _ _ := hc_z
            have q58_z := rf_keep rf_k0 rf_zall (a := 58) (by decide) rfl q382_z
            replace hc_z := rn_aload_n (am_cur_of (i := (84, 1, .aload_n 0, (0, 0, 0), 0)) (by decide +kernel)) g0_z hc_z
            replace hc_z := rn_iconst (w := 0) (am_cur_of (i := (85, 1, .iconst 0, (0, 0, 0), 0)) (by decide +kernel)) (by decide) hc_z
            replace hc_z := rn_put (am_cur_of (i := (86, 3, .putfield 115, (0, 8, 669), 0)) (by decide +kernel)) (by decide +kernel) hc_z
            replace hc_z := rn_aload_n (am_cur_of (i := (89, 1, .aload_n 0, (0, 0, 0), 0)) (by decide +kernel)) g0_z hc_z
            replace hc_z := rn_getR (x := 44) (am_cur_of (i := (90, 3, .getfield 30, (0, 4, 665), 0)) (by decide +kernel)) (by decide +kernel) hc_z
            replace hc_z := rn_getI (v := rg_v h381_z 44 0) (am_cur_of (i := (93, 3, .getfield 119, (4, 0, 407), 0)) (by decide +kernel)) (by decide +kernel) (show rg_v (am_up h381_z 0 8 (.int 0)) 44 0 = rg_v h381_z 44 0 from rfl) hc_z
            replace hc_z := rn_iret (am_cur_of (i := (96, 1, .ireturn, (0, 0, 0), 0)) (by decide +kernel)) hc_z
            obtain ⟨e383_z, e384_z⟩ := hc_z
            subst e384_z
            refine ⟨⟨_, e383_z, e2_z.trans ?_⟩, Or.inl ⟨((q58_z 3).trans ((q57_z 3).trans ((q14_z 3).trans (rfl : ((am_up (am_up h350_z 0 3 (.ref 2)) 0 2 (.ref 23))) 0 3 = _)))), ((q58_z 2).trans ((q57_z 2).trans ((q14_z 2).trans (rfl : ((am_up (am_up h350_z 0 3 (.ref 2)) 0 2 (.ref 23))) 0 2 = _))))⟩, Or.inr (Or.inr ⟨hqq, gqq, _, _, _, _, m1_z, m2_z, _, _, _, Aq, fq, r54_z, r144_z, q376_z, q379_z, q382_z, rfl, ((q58_z 2).trans ((q57_z 2).trans ((q14_z 2).trans (rfl : ((am_up (am_up h350_z 0 3 (.ref 2)) 0 2 (.ref 23))) 0 2 = _))))⟩)⟩
            exact congrArg (fun q => some (Value.int q)) (((k58_z.trans k57_z).trans k14_z).symm)
          · replace hc_z : rn _ _ _ _ [.int 0] _ _ _ := hc_z
            replace hc_z := rn_ifF (am_cur_of (i := (36, 3, .ifCond .ne 5, (22, 0, 0), 0)) (by decide +kernel)) (by decide) hc_z
            replace hc_z := rn_iconst (w := (-1)) (am_cur_of (i := (39, 1, .iconst (-1), (0, 0, 0), 0)) (by decide +kernel)) (by decide) hc_z
            replace hc_z := rn_iret (am_cur_of (i := (40, 1, .ireturn, (0, 0, 0), 0)) (by decide +kernel)) hc_z
            obtain ⟨e385_z, e386_z⟩ := hc_z
            replace e386_z := e386_z.symm
            subst e386_z
            exact ⟨⟨_, e385_z, e2_z⟩, Or.inr ⟨D1, D2⟩, Or.inr (Or.inl ⟨FF, zC_t (zC_u rfl zC_r) (cz_z (by decide) (cz23_z QQ)), ZZ.1, D2, fun o k ho h0_z => (rx_18 (by decide) QQ o k ho).trans (up_ne (fun q => h0_z q.1)), ZZ.2⟩)⟩
        · replace b360_z : t.toInt < nn.toInt := b360_z
          omega
    · replace b348_z : t.toInt < nn.toInt := b348_z
      replace hc_z := rn_bipush (w := (-2)) (am_cur_of (i := (12, 2, .bipush (-2), (0, 0, 0), 0)) (by decide +kernel)) (by decide) hc_z
      replace hc_z := rn_iret (am_cur_of (i := (14, 1, .ireturn, (0, 0, 0), 0)) (by decide +kernel)) hc_z
      obtain ⟨e387_z, e388_z⟩ := hc_z
      replace e388_z := e388_z.symm
      subst e388_z
      replace hm_z := rn_aload_n (am_cur_of (i := (0, 1, .aload_n 0, (0, 0, 0), 0)) (by decide +kernel)) g0m hm_z
      replace hm_z := rn_iconst (w := 0) (am_cur_of (i := (1, 1, .iconst 0, (0, 0, 0), 0)) (by decide +kernel)) (by decide) hm_z
      replace hm_z := rn_put (am_cur_of (i := (2, 3, .putfield 139, (12, 2, 1386), 0)) (by decide +kernel)) (by decide +kernel) hm_z
      replace hm_z := rn_iload_n (am_cur_of (i := (5, 1, .iload_n 1, (0, 0, 0), 0)) (by decide +kernel)) g1m hm_z
      replace hm_z := rn_if (am_cur_of (i := (6, 3, .ifCond .lt 11, (9, 0, 0), 0)) (by decide +kernel)) hm_z
      rcases hm_z with ⟨b389_z, hm_z⟩ | ⟨b389_z, hm_z⟩
      · replace b389_z : nn.toInt < (0 : Int32).toInt := b389_z
        omega
      · replace b389_z : (0 : Int32).toInt ≤ nn.toInt := b389_z
        replace hm_z := rn_iload_n (am_cur_of (i := (9, 1, .iload_n 1, (0, 0, 0), 0)) (by decide +kernel)) g1m hm_z
        replace hm_z := rn_aload_n (am_cur_of (i := (10, 1, .aload_n 0, (0, 0, 0), 0)) (by decide +kernel)) g0m hm_z
        replace hm_z := rn_getI (v := t) (am_cur_of (i := (11, 3, .getfield 142, (12, 1, 1385), 0)) (by decide +kernel)) (by decide +kernel) (show rg_v (am_up g 164 2 (.int 0)) 164 1 = t from I2) hm_z
        replace hm_z := rn_cmp (am_cur_of (i := (14, 3, .if_icmp .le 6, (11, 0, 0), 0)) (by decide +kernel)) hm_z
        rcases hm_z with ⟨b390_z, hm_z⟩ | ⟨b390_z, hm_z⟩
        · replace b390_z : nn.toInt ≤ t.toInt := b390_z
          omega
        · replace b390_z : t.toInt < nn.toInt := b390_z
          replace hm_z := rn_bipush (w := (-2)) (am_cur_of (i := (17, 2, .bipush (-2), (0, 0, 0), 0)) (by decide +kernel)) (by decide) hm_z
          replace hm_z := rn_iret (am_cur_of (i := (19, 1, .ireturn, (0, 0, 0), 0)) (by decide +kernel)) hm_z
          obtain ⟨e391_z, e392_z⟩ := hm_z
          exact ⟨⟨_, e387_z, e391_z⟩, Or.inr ⟨D, E⟩, Or.inl ⟨rfl, e392_z⟩⟩
