/-! ===== THE FAULT OF BOTH, between the calls (wip/r/gen99rb.py) ===== -/
def rh_w : rw_W := (fun ci_z f => !(Nat.beq (rg_cl ci_z f) 9) && !(Nat.beq ci_z 12 && (Nat.beq f 4 || Nat.beq f 5)), true, fun a => Nat.ble 144 a && Nat.ble a 148)
def rh_P (p q : Int32) (h : am_H) : Prop := rg_Gd h ∧ rg_v h 164 4 = p ∧ rg_v h 164 5 = q
theorem rh_k164 : am_ks0[164]? = some (.inl 12) := by decide +kernel
theorem rh_wP (p q : Int32) : rw_P rh_w (rh_P p q) := by
  refine ⟨fun h o ci_z f u hP hk_z hc_z hf_z => ?_, fun _ h o r n ty u hP hk_z ht hq_z hf_z => ?_⟩
  · have hc_z' : (!(Nat.beq (rg_cl ci_z f) 9) && !(Nat.beq ci_z 12 && (Nat.beq f 4 || Nat.beq f 5))) = true := hc_z
    rw [Bool.and_eq_true] at hc_z'
    refine ⟨rn_wP.1 h o ci_z f u hP.1 hk_z hc_z'.1 hf_z, ?_, ?_⟩
    · rw [rg_v_other]
      · exact hP.2.1
      · rintro ⟨e1_z, e2_z⟩
        subst e1_z; subst e2_z
        rw [rh_k164] at hk_z
        cases hk_z
        exact absurd hc_z'.2 (by decide)
    · rw [rg_v_other]
      · exact hP.2.2
      · rintro ⟨e1_z, e2_z⟩
        subst e1_z; subst e2_z
        rw [rh_k164] at hk_z
        cases hk_z
        exact absurd hc_z'.2 (by decide)
  · have hne : ∀ k, ¬ ((164 : Nat) = o ∧ k = r) := by
      rintro k ⟨e1_z, -⟩
      subst e1_z
      rw [rh_k164] at hk_z
      cases hk_z
    exact ⟨rn_wP.2 rfl h o r n ty u hP.1 hk_z ht hq_z hf_z, (rg_v_other (hne 4)).trans hP.2.1, (rg_v_other (hne 5)).trans hP.2.2⟩
def rh_M (a : Nat) : Bool := !(rh_w.2.2 a) || (match am_prog[a]? with
  | some M => M.2.2.2.all (rw_I rh_w)
  | none => true)
set_option maxRecDepth 1000000 in
theorem rh_M_all : (List.range 256).all rh_M = true := by decide +kernel
theorem rh_K {a : Nat} {M : am_M} (ha_z : rh_w.2.2 a = true) (hM : am_prog[a]? = some M) : rw_K rh_w M.2.2.2 := by
  have hl_z : a < am_prog.length := (List.getElem?_eq_some_iff.mp hM).1
  rw [am_prog_len] at hl_z
  have hb_z := List.all_eq_true.mp rh_M_all a (List.mem_range.mpr (by omega))
  unfold rh_M at hb_z
  rw [ha_z, hM] at hb_z
  exact List.all_eq_true.mp hb_z
theorem rh_144 {n k : Nat} {ls : am_L} {st : List Value} {h h' : am_H} {r : Option Value} (hr : rn n am_m144 k ls st h r h') : rg_v h' 164 4 = rg_v h 164 4 ∧ rg_v h' 164 5 = rg_v h 164 5 := by
  obtain ⟨-, hG, nc, ns, m, -, hrun⟩ := hr
  have hK : rw_K rh_w am_m144.2.2.2 := rh_K (a := 144) (by decide) rfl
  exact (rw_run (rh_wP _ _) (fun a M ha_z hM => Or.inl (rh_K ha_z hM)) m am_m144 _ ls st h nc ns _ hK (fun j hj_z => hK j (List.mem_of_mem_drop hj_z)) ⟨hG, rfl, rfl⟩ hrun).2.2
def fa (h g : am_H) : Prop := rg_v h 44 1 = rg_v g 164 4 ∧ rg_v h 44 2 = rg_v g 164 5
def fa_ok (md : List (Nat × Nat)) : Bool := !(ab_in md 44 1) && !(ab_in md 44 2) && !(ab_in md 164 4) && !(ab_in md 164 5)
theorem fa_k {md : List (Nat × Nat)} {h h' : am_H} (hb_z : fa_ok md = true) (hf_z : ab_Fr md h h') (F : fa h h) : fa h' h' := by
  unfold fa_ok at hb_z
  simp only [Bool.and_eq_true, Bool.not_eq_true'] at hb_z
  obtain ⟨⟨⟨b1_z, b2_z⟩, b3_z⟩, b4_z⟩ := hb_z
  exact ⟨(rg_v_fr hf_z b1_z).trans (F.1.trans (rg_v_fr hf_z b3_z).symm), (rg_v_fr hf_z b2_z).trans (F.2.trans (rg_v_fr hf_z b4_z).symm)⟩
def R4 (h : am_H) : Prop := R3 h ∧ fa h h
theorem tx3_fa {d : Nat} {h g : am_H} (X : tx_3 d h g) : fa h g := by
  obtain ⟨hq_z, gq, h1_z, h2_z, h3_z, h4_z, n1_z, n2_z, n3_z, n4_z, n5_z, A, e1_z, r54_z, r144_z, r14_z, r57_z, r58_z, rfl, -⟩ := X
  have k54_z := rf_v4 (a := 54) (by decide) rfl r54_z
  have k14_z := rf_v4 (a := 14) (by decide) rfl r14_z
  have k57_z := rf_v4 (a := 57) (by decide) rfl r57_z
  have k58_z := rf_v4 (a := 58) (by decide) rfl r58_z
  obtain ⟨m4_z, m5_z⟩ := rh_144 r144_z
  have a6_z := A.1.2.2.2.2.2
  have kk : ∀ j, rg_v (am_up h4_z 0 8 (.int 0)) 44 j = rg_v hq_z 44 j := fun j => ((k58_z j).trans ((k57_z j).trans (k14_z j))).trans (k54_z j)
  exact ⟨(kk 1).trans (e1_z.trans (m4_z.trans a6_z.2.2.1).symm), (kk 2).trans (a6_z.2.1.trans (m5_z.trans a6_z.2.2.2).symm)⟩
theorem R4_feed : ax_feed R4 := fun a b c d e f g h h1_z h2_z r1_z r2_z n1_z n2_z hR hG hG2 f1_z f2_z x y => ⟨R3_feed a b c d e f g h h1_z h2_z r1_z r2_z n1_z n2_z hR.1 hG hG2 f1_z f2_z x y, fa_k (by decide +kernel) f2_z (fa_k (by decide +kernel) f1_z hR.2)⟩
theorem R4_text : ax_text R4 := by
  intro t t1_z a h h1_z h2_z r1_z r2_z n1_z n2_z hR hG hG2 hT F1 F2 rn1_z rn2_z
  refine ⟨R3_text t t1_z a h h1_z h2_z r1_z r2_z n1_z n2_z hR.1 hG hG2 hT F1 F2 rn1_z rn2_z, ?_⟩
  have e1_z : rg_v h2_z 44 1 = rg_v h1_z 44 1 := rg_v_fr F2 (by decide +kernel)
  have e2_z : rg_v h2_z 44 2 = rg_v h1_z 44 2 := rg_v_fr F2 (by decide +kernel)
  obtain ⟨-, -, d, -, -, -, O⟩ := tx_all hR.1 hG F1 rn1_z rn2_z
  have key : fa h1_z h2_z := by
    rcases O with ⟨q1_z, q2_z⟩ | ⟨⟨p, w, -, f1_z, f2_z, f3_z, f4_z⟩, -⟩ | X
    · subst q1_z
      subst q2_z
      exact hR.2
    · exact ⟨f1_z.trans f3_z.symm, f2_z.trans f4_z.symm⟩
    · exact tx3_fa X
  exact ⟨e1_z.trans key.1, e2_z.trans key.2⟩
theorem R4_fault : ax_fault R4 := fun _ _ _ _ _ _ _ _ _ hR _ _ _ f1_z f2_z _ _ => ⟨R3_fr (by decide +kernel) f2_z (R3_fr (by decide +kernel) f1_z hR.1), fa_k (by decide +kernel) f2_z (fa_k (by decide +kernel) f1_z hR.2)⟩
theorem R4_named : ax_named R4 := fun _ _ _ _ _ _ _ _ _ _ hR _ _ _ f1_z f2_z _ _ => ⟨R3_fr (by decide +kernel) f2_z (R3_fr (by decide +kernel) f1_z hR.1), fa_k (by decide +kernel) f2_z (fa_k (by decide +kernel) f1_z hR.2)⟩
theorem R4_look : ax_look R4 := fun _ _ _ _ _ _ _ _ hR _ _ _ f1_z f2_z _ => ⟨R3_fr (by decide +kernel) f2_z (R3_fr (by decide +kernel) f1_z hR.1), fa_k (by decide +kernel) f2_z (fa_k (by decide +kernel) f1_z hR.2)⟩
theorem R4_law : ax_law R4 := fun _ _ _ _ _ _ _ _ _ _ hR _ _ _ f1_z f2_z _ _ => ⟨R3_fr (by decide +kernel) f2_z (R3_fr (by decide +kernel) f1_z hR.1), fa_k (by decide +kernel) f2_z (fa_k (by decide +kernel) f1_z hR.2)⟩
theorem R4_blow : ax_blow R4 := fun _ _ _ _ _ _ _ _ _ _ hR _ _ _ f1_z f2_z _ _ => ⟨R3_fr (by decide +kernel) f2_z (R3_fr (by decide +kernel) f1_z hR.1), fa_k (by decide +kernel) f2_z (fa_k (by decide +kernel) f1_z hR.2)⟩
theorem R4_waits : ax_waits R4 := fun _ _ _ _ _ _ _ _ _ _ hR _ _ _ _ _ f1_z f2_z _ _ => ⟨R3_fr (by decide +kernel) f2_z (R3_fr (by decide +kernel) f1_z hR.1), fa_k (by decide +kernel) f2_z (fa_k (by decide +kernel) f1_z hR.2)⟩
theorem R4_pump : ax_pump R4 := fun _ _ _ _ _ _ _ _ _ hR _ _ _ f1_z f2_z _ _ => ⟨R3_fr (by decide +kernel) f2_z (R3_fr (by decide +kernel) f1_z hR.1), fa_k (by decide +kernel) f2_z (fa_k (by decide +kernel) f1_z hR.2)⟩
theorem R4_patch : ax_patch R4 := fun _ _ _ _ _ _ _ _ _ hR _ _ _ f1_z f2_z _ _ => ⟨R3_fr (by decide +kernel) f2_z (R3_fr (by decide +kernel) f1_z hR.1), fa_k (by decide +kernel) f2_z (fa_k (by decide +kernel) f1_z hR.2)⟩
theorem R4_leak : ax_leak R4 := fun _ _ _ _ _ _ _ _ hR _ _ _ f1_z f2_z _ _ => ⟨R3_fr (by decide +kernel) f2_z (R3_fr (by decide +kernel) f1_z hR.1), fa_k (by decide +kernel) f2_z (fa_k (by decide +kernel) f1_z hR.2)⟩
theorem R4_ever : ax_ever R4 := fun _ _ _ _ _ _ _ _ _ hR _ _ _ f1_z f2_z _ _ => ⟨R3_fr (by decide +kernel) f2_z (R3_fr (by decide +kernel) f1_z hR.1), fa_k (by decide +kernel) f2_z (fa_k (by decide +kernel) f1_z hR.2)⟩
theorem R4_best : ax_best R4 := fun _ _ _ _ _ _ _ _ _ _ hR _ _ _ f1_z f2_z _ _ => ⟨R3_fr (by decide +kernel) f2_z (R3_fr (by decide +kernel) f1_z hR.1), fa_k (by decide +kernel) f2_z (fa_k (by decide +kernel) f1_z hR.2)⟩
theorem R4_lasts : ax_lasts R4 := fun _ _ _ _ _ _ _ _ _ _ hR _ _ _ f1_z f2_z _ _ => ⟨R3_fr (by decide +kernel) f2_z (R3_fr (by decide +kernel) f1_z hR.1), fa_k (by decide +kernel) f2_z (fa_k (by decide +kernel) f1_z hR.2)⟩
theorem R4_firm : ax_firm R4 := fun _ _ _ _ _ _ _ _ _ _ hR _ _ _ f1_z f2_z _ _ => ⟨R3_fr (by decide +kernel) f2_z (R3_fr (by decide +kernel) f1_z hR.1), fa_k (by decide +kernel) f2_z (fa_k (by decide +kernel) f1_z hR.2)⟩
theorem R4_up : ax_up R4 := fun _ _ _ _ _ _ _ _ _ _ _ hR _ _ _ f1_z f2_z _ _ => ⟨R3_fr (by decide +kernel) f2_z (R3_fr (by decide +kernel) f1_z hR.1), fa_k (by decide +kernel) f2_z (fa_k (by decide +kernel) f1_z hR.2)⟩
theorem R4_upAt : ax_upAt R4 := fun _ _ _ _ _ _ _ _ _ _ _ _ hR _ _ _ f1_z f2_z _ _ => ⟨R3_fr (by decide +kernel) f2_z (R3_fr (by decide +kernel) f1_z hR.1), fa_k (by decide +kernel) f2_z (fa_k (by decide +kernel) f1_z hR.2)⟩
theorem R4_cheapest : ax_cheapest R4 := fun _ _ _ _ _ _ _ _ _ _ _ hR _ _ _ f1_z f2_z _ _ => ⟨R3_fr (by decide +kernel) f2_z (R3_fr (by decide +kernel) f1_z hR.1), fa_k (by decide +kernel) f2_z (fa_k (by decide +kernel) f1_z hR.2)⟩
theorem R4_lend : ax_lend R4 := fun _ _ _ _ _ _ _ _ _ _ hR _ _ _ f1_z f2_z _ _ => ⟨R3_fr (by decide +kernel) f2_z (R3_fr (by decide +kernel) f1_z hR.1), fa_k (by decide +kernel) f2_z (fa_k (by decide +kernel) f1_z hR.2)⟩
theorem R4_seek : ax_seek R4 := fun _ _ _ _ _ _ _ _ _ _ hR _ _ _ f1_z f2_z _ _ => ⟨R3_fr (by decide +kernel) f2_z (R3_fr (by decide +kernel) f1_z hR.1), fa_k (by decide +kernel) f2_z (fa_k (by decide +kernel) f1_z hR.2)⟩
theorem R4_mean : ax_mean R4 := fun _ _ _ _ _ _ _ _ _ hR _ _ _ f1_z f2_z _ _ => ⟨R3_fr (by decide +kernel) f2_z (R3_fr (by decide +kernel) f1_z hR.1), fa_k (by decide +kernel) f2_z (fa_k (by decide +kernel) f1_z hR.2)⟩
theorem R4_rule : ax_rule R4 := fun _ _ _ _ _ _ _ _ _ hR _ _ _ f1_z f2_z _ _ => ⟨R3_fr (by decide +kernel) f2_z (R3_fr (by decide +kernel) f1_z hR.1), fa_k (by decide +kernel) f2_z (fa_k (by decide +kernel) f1_z hR.2)⟩
theorem R4_fairest : ax_fairest R4 := fun _ _ _ _ _ _ _ _ hR _ _ _ f1_z f2_z _ _ => ⟨R3_fr (by decide +kernel) f2_z (R3_fr (by decide +kernel) f1_z hR.1), fa_k (by decide +kernel) f2_z (fa_k (by decide +kernel) f1_z hR.2)⟩
theorem R4_cheek : ax_cheek R4 := fun _ _ _ _ _ _ _ _ _ _ _ _ hR _ _ _ _ _ f1_z f2_z _ _ => ⟨R3_fr (by decide +kernel) f2_z (R3_fr (by decide +kernel) f1_z hR.1), fa_k (by decide +kernel) f2_z (fa_k (by decide +kernel) f1_z hR.2)⟩
theorem R4_strike : ax_strike R4 := fun _ _ _ _ _ _ _ _ _ hR _ _ _ f1_z f2_z _ _ => ⟨R3_fr (by decide +kernel) f2_z (R3_fr (by decide +kernel) f1_z hR.1), fa_k (by decide +kernel) f2_z (fa_k (by decide +kernel) f1_z hR.2)⟩
theorem R4_known : ax_known R4 := fun _ _ _ _ _ _ _ _ _ hR _ _ _ f1_z f2_z _ _ => ⟨R3_fr (by decide +kernel) f2_z (R3_fr (by decide +kernel) f1_z hR.1), fa_k (by decide +kernel) f2_z (fa_k (by decide +kernel) f1_z hR.2)⟩
theorem R4_fits : ax_fits R4 := fun _ _ _ _ _ _ _ _ hR _ _ _ f1_z f2_z _ _ => ⟨R3_fr (by decide +kernel) f2_z (R3_fr (by decide +kernel) f1_z hR.1), fa_k (by decide +kernel) f2_z (fa_k (by decide +kernel) f1_z hR.2)⟩
theorem R4_chance : ax_chance R4 := fun _ _ _ _ _ _ _ _ _ _ _ hR _ _ _ f1_z f2_z _ _ => ⟨R3_fr (by decide +kernel) f2_z (R3_fr (by decide +kernel) f1_z hR.1), fa_k (by decide +kernel) f2_z (fa_k (by decide +kernel) f1_z hR.2)⟩
theorem R4_tried : ax_tried R4 := fun _ _ _ _ _ _ _ _ _ _ _ hR _ _ _ f1_z f2_z _ _ => ⟨R3_fr (by decide +kernel) f2_z (R3_fr (by decide +kernel) f1_z hR.1), fa_k (by decide +kernel) f2_z (fa_k (by decide +kernel) f1_z hR.2)⟩
theorem R4_undo : ax_undo R4 := fun _ _ _ _ _ _ _ _ hR _ _ _ f1_z f2_z _ _ => ⟨R3_fr (by decide +kernel) f2_z (R3_fr (by decide +kernel) f1_z hR.1), fa_k (by decide +kernel) f2_z (fa_k (by decide +kernel) f1_z hR.2)⟩
theorem R4_keep : ax_keep R4 := fun _ _ _ _ _ _ _ _ hR _ _ _ f1_z f2_z _ _ => ⟨R3_fr (by decide +kernel) f2_z (R3_fr (by decide +kernel) f1_z hR.1), fa_k (by decide +kernel) f2_z (fa_k (by decide +kernel) f1_z hR.2)⟩
theorem R4_back : ax_back R4 := fun _ _ _ _ _ _ _ _ hR _ _ _ f1_z f2_z _ _ => ⟨R3_fr (by decide +kernel) f2_z (R3_fr (by decide +kernel) f1_z hR.1), fa_k (by decide +kernel) f2_z (fa_k (by decide +kernel) f1_z hR.2)⟩
theorem R4_count : ax_count R4 := fun _ _ _ _ _ _ _ _ _ hR _ _ _ f1_z f2_z _ _ => ⟨R3_fr (by decide +kernel) f2_z (R3_fr (by decide +kernel) f1_z hR.1), fa_k (by decide +kernel) f2_z (fa_k (by decide +kernel) f1_z hR.2)⟩
theorem R4_All : ax_All R4 := ⟨R4_feed, R4_text, R4_fault, R4_named, R4_look, R4_law, R4_blow, R4_waits, R4_pump, R4_patch, R4_leak, R4_ever, R4_best, R4_lasts, R4_firm, R4_up, R4_upAt, R4_cheapest, R4_lend, R4_seek, R4_mean, R4_rule, R4_fairest, R4_cheek, R4_strike, R4_known, R4_fits, R4_chance, R4_tried, R4_undo, R4_keep, R4_back, R4_count⟩
theorem R4_0 : R4 am_h0 := by
  have b : (rg_v am_h0 44 1 = rg_v am_h0 164 4) ∧ (rg_v am_h0 44 2 = rg_v am_h0 164 5) := by decide +kernel
  exact ⟨R3_0, b⟩
theorem fa_eq {n n' : Nat} {h h' g g' : am_H} {r r' : Option Value} {a : Int32} (hF : fa h g) (hc_z : rn n am_m59 0 (lv_args 0 [.ref 0, .int a]) [] h r h') (hm_z : rn n' am_m182 0 (lv_args 0 [.ref 164, .int a]) [] g r' g') : r = r' := by
  have z0_z : (0 : Int32).toInt = 0 := by decide
  have z1_z : (1 : Int32).toInt = 1 := by decide
  have g0_z : am_get (lv_args 0 [.ref 0, .int a]) 0 = some (.ref 0) := rfl
  have g1_z : am_get (lv_args 0 [.ref 0, .int a]) 1 = some (.int a) := rfl
  have g0m : am_get (lv_args 0 [.ref 164, .int a]) 0 = some (.ref 164) := rfl
  have g1m : am_get (lv_args 0 [.ref 164, .int a]) 1 = some (.int a) := rfl
  replace hc_z := rn_iload_n (am_cur_of (i := (0, 1, .iload_n 1, (0, 0, 0), 0)) (by decide +kernel)) g1_z hc_z
  replace hc_z := rn_if (am_cur_of (i := (1, 3, .ifCond .ne 11, (6, 0, 0), 0)) (by decide +kernel)) hc_z
  rcases hc_z with ⟨b1_z, hc_z⟩ | ⟨b1_z, hc_z⟩
  · replace b1_z : ¬ a = (0 : Int32) ∧ ¬ a.toInt = (0 : Int32).toInt := b1_z
    replace hc_z := rn_iload_n (am_cur_of (i := (12, 1, .iload_n 1, (0, 0, 0), 0)) (by decide +kernel)) g1_z hc_z
    replace hc_z := rn_iconst (w := 1) (am_cur_of (i := (13, 1, .iconst 1, (0, 0, 0), 0)) (by decide +kernel)) (by decide) hc_z
    replace hc_z := rn_cmp (am_cur_of (i := (14, 3, .if_icmp .ne 13, (13, 0, 0), 0)) (by decide +kernel)) hc_z
    rcases hc_z with ⟨b2_z, hc_z⟩ | ⟨b2_z, hc_z⟩
    · replace b2_z : ¬ a = (1 : Int32) ∧ ¬ a.toInt = (1 : Int32).toInt := b2_z
      replace hc_z := rn_iconst (w := (-1)) (am_cur_of (i := (27, 1, .iconst (-1), (0, 0, 0), 0)) (by decide +kernel)) (by decide) hc_z
      replace hc_z := rn_iret (am_cur_of (i := (28, 1, .ireturn, (0, 0, 0), 0)) (by decide +kernel)) hc_z
      obtain ⟨e3_z, e4_z⟩ := hc_z
      replace hm_z := rn_aload_n (am_cur_of (i := (0, 1, .aload_n 0, (0, 0, 0), 0)) (by decide +kernel)) g0m hm_z
      replace hm_z := rn_iconst (w := 0) (am_cur_of (i := (1, 1, .iconst 0, (0, 0, 0), 0)) (by decide +kernel)) (by decide) hm_z
      replace hm_z := rn_put (am_cur_of (i := (2, 3, .putfield 139, (12, 2, 1386), 0)) (by decide +kernel)) (by decide +kernel) hm_z
      replace hm_z := rn_iload_n (am_cur_of (i := (5, 1, .iload_n 1, (0, 0, 0), 0)) (by decide +kernel)) g1m hm_z
      replace hm_z := rn_if (am_cur_of (i := (6, 3, .ifCond .ne 10, (8, 0, 0), 0)) (by decide +kernel)) hm_z
      rcases hm_z with ⟨b5_z, hm_z⟩ | ⟨b5_z, hm_z⟩
      · replace b5_z : ¬ a = (0 : Int32) ∧ ¬ a.toInt = (0 : Int32).toInt := b5_z
        replace hm_z := rn_iload_n (am_cur_of (i := (16, 1, .iload_n 1, (0, 0, 0), 0)) (by decide +kernel)) g1m hm_z
        replace hm_z := rn_iconst (w := 1) (am_cur_of (i := (17, 1, .iconst 1, (0, 0, 0), 0)) (by decide +kernel)) (by decide) hm_z
        replace hm_z := rn_cmp (am_cur_of (i := (18, 3, .if_icmp .ne 10, (14, 0, 0), 0)) (by decide +kernel)) hm_z
        rcases hm_z with ⟨b6_z, hm_z⟩ | ⟨b6_z, hm_z⟩
        · replace b6_z : ¬ a = (1 : Int32) ∧ ¬ a.toInt = (1 : Int32).toInt := b6_z
          replace hm_z := rn_iconst (w := (-1)) (am_cur_of (i := (28, 1, .iconst (-1), (0, 0, 0), 0)) (by decide +kernel)) (by decide) hm_z
          replace hm_z := rn_iret (am_cur_of (i := (29, 1, .ireturn, (0, 0, 0), 0)) (by decide +kernel)) hm_z
          obtain ⟨e7_z, e8_z⟩ := hm_z
          rw [e3_z, e7_z]
        · replace b6_z : a = (1 : Int32) ∧ a.toInt = (1 : Int32).toInt := b6_z
          exact absurd b6_z.1 b2_z.1
      · replace b5_z : a = (0 : Int32) ∧ a.toInt = (0 : Int32).toInt := b5_z
        exact absurd b5_z.1 b1_z.1
    · replace b2_z : a = (1 : Int32) ∧ a.toInt = (1 : Int32).toInt := b2_z
      replace hc_z := rn_aload_n (am_cur_of (i := (17, 1, .aload_n 0, (0, 0, 0), 0)) (by decide +kernel)) g0_z hc_z
      replace hc_z := rn_getR (x := 44) (am_cur_of (i := (18, 3, .getfield 30, (0, 4, 665), 0)) (by decide +kernel)) (by decide +kernel) hc_z
      replace hc_z := rn_getI (v := rg_v h 44 2) (am_cur_of (i := (21, 3, .getfield 125, (4, 2, 411), 0)) (by decide +kernel)) (by decide +kernel) rfl hc_z
      replace hc_z := rn_goto (am_cur_of (i := (24, 3, .goto 4, (14, 0, 0), 0)) (by decide +kernel)) hc_z
      replace hc_z := rn_iret (am_cur_of (i := (28, 1, .ireturn, (0, 0, 0), 0)) (by decide +kernel)) hc_z
      obtain ⟨e9_z, e10_z⟩ := hc_z
      replace hm_z := rn_aload_n (am_cur_of (i := (0, 1, .aload_n 0, (0, 0, 0), 0)) (by decide +kernel)) g0m hm_z
      replace hm_z := rn_iconst (w := 0) (am_cur_of (i := (1, 1, .iconst 0, (0, 0, 0), 0)) (by decide +kernel)) (by decide) hm_z
      replace hm_z := rn_put (am_cur_of (i := (2, 3, .putfield 139, (12, 2, 1386), 0)) (by decide +kernel)) (by decide +kernel) hm_z
      replace hm_z := rn_iload_n (am_cur_of (i := (5, 1, .iload_n 1, (0, 0, 0), 0)) (by decide +kernel)) g1m hm_z
      replace hm_z := rn_if (am_cur_of (i := (6, 3, .ifCond .ne 10, (8, 0, 0), 0)) (by decide +kernel)) hm_z
      rcases hm_z with ⟨b11_z, hm_z⟩ | ⟨b11_z, hm_z⟩
      · replace b11_z : ¬ a = (0 : Int32) ∧ ¬ a.toInt = (0 : Int32).toInt := b11_z
        replace hm_z := rn_iload_n (am_cur_of (i := (16, 1, .iload_n 1, (0, 0, 0), 0)) (by decide +kernel)) g1m hm_z
        replace hm_z := rn_iconst (w := 1) (am_cur_of (i := (17, 1, .iconst 1, (0, 0, 0), 0)) (by decide +kernel)) (by decide) hm_z
        replace hm_z := rn_cmp (am_cur_of (i := (18, 3, .if_icmp .ne 10, (14, 0, 0), 0)) (by decide +kernel)) hm_z
        rcases hm_z with ⟨b12_z, hm_z⟩ | ⟨b12_z, hm_z⟩
        · replace b12_z : ¬ a = (1 : Int32) ∧ ¬ a.toInt = (1 : Int32).toInt := b12_z
          exact absurd b2_z.1 b12_z.1
        · replace b12_z : a = (1 : Int32) ∧ a.toInt = (1 : Int32).toInt := b12_z
          replace hm_z := rn_aload_n (am_cur_of (i := (21, 1, .aload_n 0, (0, 0, 0), 0)) (by decide +kernel)) g0m hm_z
          replace hm_z := rn_getI (v := rg_v g 164 5) (am_cur_of (i := (22, 3, .getfield 16, (12, 5, 1389), 0)) (by decide +kernel)) (by decide +kernel) (show rg_v (am_up g 164 2 (.int 0)) 164 5 = rg_v g 164 5 from rfl) hm_z
          replace hm_z := rn_goto (am_cur_of (i := (25, 3, .goto 4, (15, 0, 0), 0)) (by decide +kernel)) hm_z
          replace hm_z := rn_iret (am_cur_of (i := (29, 1, .ireturn, (0, 0, 0), 0)) (by decide +kernel)) hm_z
          obtain ⟨e13_z, e14_z⟩ := hm_z
          rw [e9_z, e13_z]
          exact congrArg (fun q => some (Value.int q)) hF.2
      · replace b11_z : a = (0 : Int32) ∧ a.toInt = (0 : Int32).toInt := b11_z
        exact absurd b11_z.1 b1_z.1
  · replace b1_z : a = (0 : Int32) ∧ a.toInt = (0 : Int32).toInt := b1_z
    replace hc_z := rn_aload_n (am_cur_of (i := (4, 1, .aload_n 0, (0, 0, 0), 0)) (by decide +kernel)) g0_z hc_z
    replace hc_z := rn_getR (x := 44) (am_cur_of (i := (5, 3, .getfield 30, (0, 4, 665), 0)) (by decide +kernel)) (by decide +kernel) hc_z
    replace hc_z := rn_getI (v := rg_v h 44 1) (am_cur_of (i := (8, 3, .getfield 122, (4, 1, 409), 0)) (by decide +kernel)) (by decide +kernel) rfl hc_z
    replace hc_z := rn_iret (am_cur_of (i := (11, 1, .ireturn, (0, 0, 0), 0)) (by decide +kernel)) hc_z
    obtain ⟨e15_z, e16_z⟩ := hc_z
    replace hm_z := rn_aload_n (am_cur_of (i := (0, 1, .aload_n 0, (0, 0, 0), 0)) (by decide +kernel)) g0m hm_z
    replace hm_z := rn_iconst (w := 0) (am_cur_of (i := (1, 1, .iconst 0, (0, 0, 0), 0)) (by decide +kernel)) (by decide) hm_z
    replace hm_z := rn_put (am_cur_of (i := (2, 3, .putfield 139, (12, 2, 1386), 0)) (by decide +kernel)) (by decide +kernel) hm_z
    replace hm_z := rn_iload_n (am_cur_of (i := (5, 1, .iload_n 1, (0, 0, 0), 0)) (by decide +kernel)) g1m hm_z
    replace hm_z := rn_if (am_cur_of (i := (6, 3, .ifCond .ne 10, (8, 0, 0), 0)) (by decide +kernel)) hm_z
    rcases hm_z with ⟨b17_z, hm_z⟩ | ⟨b17_z, hm_z⟩
    · replace b17_z : ¬ a = (0 : Int32) ∧ ¬ a.toInt = (0 : Int32).toInt := b17_z
      exact absurd b1_z.1 b17_z.1
    · replace b17_z : a = (0 : Int32) ∧ a.toInt = (0 : Int32).toInt := b17_z
      replace hm_z := rn_aload_n (am_cur_of (i := (9, 1, .aload_n 0, (0, 0, 0), 0)) (by decide +kernel)) g0m hm_z
      replace hm_z := rn_getI (v := rg_v g 164 4) (am_cur_of (i := (10, 3, .getfield 145, (12, 4, 1388), 0)) (by decide +kernel)) (by decide +kernel) (show rg_v (am_up g 164 2 (.int 0)) 164 4 = rg_v g 164 4 from rfl) hm_z
      replace hm_z := rn_goto (am_cur_of (i := (13, 3, .goto 16, (15, 0, 0), 0)) (by decide +kernel)) hm_z
      replace hm_z := rn_iret (am_cur_of (i := (29, 1, .ireturn, (0, 0, 0), 0)) (by decide +kernel)) hm_z
      obtain ⟨e18_z, e19_z⟩ := hm_z
      rw [e15_z, e18_z]
      exact congrArg (fun q => some (Value.int q)) hF.1
theorem R4_y : ay_fault R4 := by
  intro t a h h1_z h2_z r1_z r2_z n1_z n2_z hR hG hG1 hG2 F1 F2 rn1_z rn2_z
  exact fa_eq (h := h) (g := h1_z) ⟨hR.2.1.trans (rg_v_fr F1 (by decide +kernel)).symm, hR.2.2.trans (rg_v_fr F1 (by decide +kernel)).symm⟩ rn1_z rn2_z
