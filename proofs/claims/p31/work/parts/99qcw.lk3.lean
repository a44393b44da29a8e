/-! ===== THE LAW'S LOOK: what its own method makes of it ===== -/
section AGM
variable {l : Launch} {D : va_G} {B : Nat} {x : Nat → Nat} {TX : State → Prop}
theorem ag_k202 : am_ks0[202]? = some (.inr (.long, 1)) := by decide +kernel
theorem ag_tail {u : am_H} {v a b : Int32} : am_Ek false am_G0 am_mLt 0 (lv_args 0 [.ref 0, .int a, .int b, .ref 202]) [.int v, .int 0, .ref 202] am_ks0 u 1 6 (fun r ks h' => r = some (.int 0) ∧ ks = am_ks0 ∧ h' = am_up u 202 0 (.long v.toInt64)) := by
  refine am_e_i2l (w := v.toInt64) (am_nxt_of (i := (8, 1, .i2l, (0, 0, 0), 0)) (by decide +kernel)) rfl ?_
  refine am_e_lastore (q := 0) (am_nxt_of (i := (9, 1, .lastore, (0, 0, 0), 0)) (by decide +kernel)) ag_k202 (by decide) rfl ?_
  refine am_e_goto (am_cur_of (i := (10, 3, .goto 11, (3, 0, 0), 0)) (by decide +kernel)) (am_tgt_of (by decide +kernel)) ?_
  refine am_e_iconst (w := 0) (am_nxt_of (i := (21, 1, .iconst 0, (0, 0, 0), 0)) (by decide +kernel)) rfl ?_
  exact am_e_iret (ty := .int) (am_cur_of (i := (22, 1, .ireturn, (0, 0, 0), 0)) (by decide +kernel)) rfl rfl rfl ⟨rfl, rfl, rfl⟩
theorem ag_L_of (hTm : am_TXm B TX) (hTN : am_TN TX) (hTx : am_TxOK l B x am_txt TX) (hTL : ∀ U, TX U → am_TL B U) {h : am_H} {a b : Int32} {r : am_O} {PN : Int32 → am_H → Prop} {PX : String → am_H → Prop} (hM : ag_KM l D B x TX a b h PN PX)
    (hn : ∀ v g, PN v g → r = (some (.int 0), am_ks0, am_up g 202 0 (.long v.toInt64))) (hp : ∀ E g, PX E g → (E = am_IX ∧ r = (some (.int 1), am_ks0, g)) ∨ (E = ag_NS ∧ r = (some (.int 2), am_ks0, g))) :
    am_MetL l D am_cls B x false TX am_mL am_hh [.ref 0, .int a, .int b, .ref 202] am_ks0 h r := by
  refine va_MetW (cc := am_mL.1.2.2) (maxL := 5) (ret := some .int) (hh := am_hh) rfl rfl ?_
  intro p e s m args below meth c s₁ Bd hml hv
  obtain ⟨rfl, hrel, hB, hT⟩ := hv
  have hts0 := atoms_spec (ws := am_wsL am_mL am_hh) Bd.pre
  have hts : ∀ w ∈ am_ts, w.before _ s = true := fun w hw => hts0 w (List.mem_cons_of_mem _ hw)
  have htab := vx_table (x := am_mL.1.2.1) Bd (hts0 _ List.mem_cons_self)
  have hx := Bd.exec
  have hb : c.code = am_mL.1.2.2 := Bd.bytes
  have hown : s.vm.findClass "AirBedLaw" = some m.cls := findClass_of_methodNamed Bd.named
  have hl := lv_entry ([Value.ref 0, .int a, .int b, .ref 202].map (am_c B x)) (n := 5) (Nat.le_of_ble_eq_true rfl)
  rw [lg_entry_eq]
  have hl2 := hl
  rw [am_lv_args] at hl2
  generalize (lg_sl ([Value.ref 0, .int a, .int b, .ref 202].map (am_c B x)) ++ List.replicate (5 - (lg_sl ([Value.ref 0, .int a, .int b, .ref 202].map (am_c B x))).length) Slot.unset).toArray = L at hl hl2 ⊢
  have l0 : L[0]? = some (.val (.ref (B + 0))) := lv_at hl 0 rfl
  have l1 : L[1]? = some (.val (.int a)) := lv_at hl 1 rfl
  have l2 : L[2]? = some (.val (.int b)) := lv_at hl 2 rfl
  have l3 : L[3]? = some (.val (.ref (B + 202))) := lv_at hl 3 rfl
  refine lv_aload_n hx hb (by decide +kernel : decode am_mL.1.2.2 0 = .ok (.aload_n 3, 1)) rfl l3 ?_
  refine lv_iconst (v := 0) hx hb (by decide +kernel : decode am_mL.1.2.2 1 = .ok (.iconst 0, 1)) (by decide) ?_
  refine lv_aload_n hx hb (by decide +kernel : decode am_mL.1.2.2 2 = .ok (.aload_n 0, 1)) rfl l0 ?_
  refine lv_iload_n hx hb (by decide +kernel : decode am_mL.1.2.2 3 = .ok (.iload_n 1, 1)) rfl l1 ?_
  refine lv_iload_n hx hb (by decide +kernel : decode am_mL.1.2.2 4 = .ok (.iload_n 2, 1)) rfl l2 ?_
  have hK := hrel.1
  obtain ⟨dA, hP, hA, hz⟩ := hrel.2
  have he := am_W_some (cl := am_cls) (B := B) (x := x) (dA := dA) (h := h) (i := 0) (ks := am_ks0) (k := .inl 0) rfl
  have hrcv := va_recv hK hP (ci := 0) rfl he
  refine vx_calli (vx_runV (own := "AirBedLaw") (C := "AirBed") (Ts := am_ts) (cc := am_mL.1.2.2) (nL := 5) (As := [Value.int a, .int b]) (rest := [.int 0, .ref (B + 202)]) ⟨hx, hb, hml, hown, hts⟩ hM (cwV 2 hts (am_good (fun w hw => ?_)) rfl rfl rfl ⟨rfl, by decide, by decide, by decide +kernel⟩ (by decide)) ⟨am_Pc_blind hTm, hrcv, fun U hU hWm => ⟨rfl, ?_⟩⟩ rfl rfl hl.1 rfl (lv_room (Nat.le_of_ble_eq_true rfl)) (by decide +kernel : decode am_mL.1.2.2 5 = .ok (.invokevirtual 7, 3)) (by decide)) (va_S.rf (A := fun q => B ≤ q)) (fun q _ h9 => h9) (fun q h9 => h9) (fun q _ h9 => h9) ?_ ?_
  · simp only [wsV, am_ws, List.mem_append, List.mem_cons, List.not_mem_nil, or_false] at hw
    rcases hw with (rfl | rfl | rfl | rfl) | rfl | hw
    · exact am_w_ok (i := 1261) (by decide +kernel)
    · exact am_w_ok (i := 1262) (by decide +kernel)
    · exact am_w_ok (i := 1263) (by decide +kernel)
    · exact am_w_ok (i := 118) (by decide +kernel)
    · exact am_w_ok (i := 1264) (by decide +kernel)
    · exact hw
  · refine ⟨am_Rel.moved hWm.alike ?_, by rw [hU]; exact hB, hTm s U (Or.inr hWm) (fun q _ => by rw [hU]) hT⟩
    rw [hU]
    exact hrel
  · intro E ce q9 u t H1 locs1 htH hal _ hBX hsz hkeep hS1 hce hcv hcl
    obtain ⟨hPX, hrel1⟩ := hBX
    have h9 : am_Rel D am_cls B x false am_ks0 u (B + am_ks0.length) s t.heap := am_Rel.moved hal.symm hrel1
    rcases hp E u hPX with ⟨rfl, rfl⟩ | ⟨rfl, rfl⟩
    · refine am_catch (own := "AirBedLaw") (name := am_IX) hown (suf := [⟨0, 10, 17, 15⟩]) (x := ⟨0, 10, 13, 13⟩) (htab.trans rfl) (by decide) (by decide) (hts _ (am_w_ok (i := 1259) (by decide +kernel))) ((am_okW_ok am_cast_ok List.mem_cons_self).elim (hts _) (fun q => am_dc_use q.2 ((hTL s hT).2.2.2.2.2 _ q.1))) hce hcv hcl ?_
      refine lv_astore hx hb (by decide +kernel : decode am_mL.1.2.2 13 = .ok (.astore 4, 2)) hl (by decide) rfl (fun L' _ => ?_)
      refine lv_iconst (v := 1) hx hb (by decide +kernel : decode am_mL.1.2.2 15 = .ok (.iconst 1, 1)) (by decide) ?_
      refine W.widen (k := 4) (n := 40) (by decide) (by decide) ?_
      refine W.iret hx hb Bd.returns (fun t' ht' hWm => ⟨rfl, ?_, hS1.F ht'⟩) hS1.2.2 (by decide +kernel : decode am_mL.1.2.2 16 = .ok (.ireturn, 1)) Bd.notSynchronized
      rw [htH, ← ht'] at h9
      exact am_Rel.moved hWm.alike h9
    · refine ag_catch2 (own := "AirBedLaw") (name := am_IX) (name2 := ag_NS) hown (suf := []) (x := ⟨0, 10, 13, 13⟩) (y := ⟨0, 10, 17, 15⟩) (htab.trans rfl) (by decide) (by decide) (by decide) (by decide) (hts _ (am_w_ok (i := 1259) (by decide +kernel))) (hts _ (am_w_ok (i := 1260) (by decide +kernel))) (hTL s hT).2.2.2.2.1 ((am_okW_ok am_cast_ok (List.mem_cons_of_mem _ List.mem_cons_self)).elim (hts _) (fun q => am_dc_use q.2 ((hTL s hT).2.2.2.2.2 _ q.1))) hce hcv hcl ?_
      refine lv_astore hx hb (by decide +kernel : decode am_mL.1.2.2 17 = .ok (.astore 4, 2)) hl (by decide) rfl (fun L' _ => ?_)
      refine lv_iconst (v := 2) hx hb (by decide +kernel : decode am_mL.1.2.2 19 = .ok (.iconst 2, 1)) (by decide) ?_
      refine W.widen (k := 4) (n := 40) (by decide) (by decide) ?_
      refine W.iret hx hb Bd.returns (fun t' ht' hWm => ⟨rfl, ?_, hS1.F ht'⟩) hS1.2.2 (by decide +kernel : decode am_mL.1.2.2 20 = .ok (.ireturn, 1)) Bd.notSynchronized
      rw [htH, ← ht'] at h9
      exact am_Rel.moved hWm.alike h9
  · intro v u t H1 locs1 htH hal hPN hBu hsz hkeep hS1
    have hr := hn v u hPN
    subst hr
    obtain ⟨n, ⟨r1, ks1, h1⟩, hrun, q1, q2, q3⟩ := ag_tail (u := u) (v := v) (a := a) (b := b)
    have q1 : r1 = some (.int 0) := q1
    have q2 : ks1 = am_ks0 := q2
    have q3 : h1 = am_up u 202 0 (.long v.toInt64) := q3
    subst q1; subst q2; subst q3
    have C : am_C p s m ([Value.ref 0, .int a, .int b, .ref 202].map (am_c B x)).toArray meth c am_mLt := ⟨hx, hb, hml, Bd.returns, hown, hts, Bd.notSynchronized, (name_of_methodNamed Bd.named Bd.method).1, fun w hw => hTN s _ hT w hw⟩
    have hW := am_run_ok (D := D) hTm hTN hTx n am_G0 am_mLt _ _ (am_okG_ok _ _) (am_okP_ok _ _) rfl (fun i hi => ag_okT none (fun _ _ _ => none) i (List.mem_of_mem_drop hi)) (ag_okT none (fun _ _ _ => none)) hrun (fun _ _ _ _ _ _ h9 => by cases h9) p e s m ([Value.ref 0, .int a, .int b, .ref 202].map (am_c B x)).toArray below meth c C (fun L xs h9 => by cases h9) hT hB
    have h9 : am_Rel D am_cls B x false am_ks0 u (B + am_ks0.length) s t.heap := am_Rel.moved hal.symm hBu
    rw [htH] at h9
    exact hW H1 locs1 L _ _ rfl (am_Rel_kept h9 (fun q _ => rfl)) hS1 hl2
theorem ag_lk_met (hl0 : l.stackTraces = false) (hTm : am_TXm B TX) (hTN : am_TN TX) (hTx : am_TxOK l B x am_txt TX) (hTL : ∀ U, TX U → am_TL B U) {scr : Option (Nat × (Nat → Int32))} :
    ∀ (hh : List (Nat × Nat × Nat × Nat)), am_okL (am_P1 scr am_lk) hh → ∀ (as : List Value) (ks : List am_k) (h : am_H) (r : am_O), (am_P1 scr am_lk).2.2.2.2.2.2 as ks h = some r → am_MetL l D am_cls B x false TX (am_P1 scr am_lk).2.2.2.2.2.1 hh as ks h r := by
  intro hh hok as ks h r hr
  obtain ⟨a, b, rfl, rfl, hP⟩ := ag_lk_spec (show am_lk as ks h = some r from hr)
  have e := am_cw_one (am_ts_tbl hok.2.2.1)
  subst e
  obtain ⟨hc, -⟩ := hP
  rcases hc with ⟨h1, rfl⟩ | ⟨h1, h2, rfl⟩ | ⟨v, h2, h3, rfl⟩
  · exact ag_L_of hTm hTN hTx hTL (ag_KA (D := D) (b := b) hl0 hTm hTN hTx hTL h1) (fun _ _ q => q.elim) (fun E g q => Or.inl ⟨q.1, by rw [q.2]⟩)
  · exact ag_L_of hTm hTN hTx hTL (ag_KB (D := D) hl0 hTm hTN hTx hTL h2) (fun _ _ q => q.elim) (fun E g q => Or.inr ⟨q.1, by rw [q.2]⟩)
  · exact ag_L_of hTm hTN hTx hTL (ag_KC (D := D) hTm hTN hTx h3) (fun v' g q => by rw [q.1, q.2]) (fun _ _ q => q.elim)
end AGM
