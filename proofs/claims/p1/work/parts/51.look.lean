/-! ===== look ON A NEW OBJECT: it throws, and the law's own method catches ===== -/
def am_IX : String := "java/lang/IndexOutOfBoundsException"
def am_IXn : List String := ["java/lang/RuntimeException", "java/lang/Exception"]
def am_mK : am_M := ((0, ⟨"AirBed", "look", "(II)I"⟩, prog_1_method_7_code), (3, some .int, 2), (6, 90, 1, 6), [])
/-- no BLOWERS: what look asks first -/
def am_lkH (ks : List am_k) (h : am_H) : Prop := ks = am_ks0 ∧ h 0 2 = .ref 2 ∧ h 2 2 = .int 0
theorem am_lk_isB {h : am_H} (hh : am_lkH am_ks0 h) (a : Int32) : am_Ek false am_G0 am_m37 0 [(0, .ref 0), (1, .int a)] [] am_ks0 h 0 0 (fun v ks h' => v = some (.int 0) ∧ ks = am_ks0 ∧ h' = h) := by
  obtain ⟨-, h1, h2⟩ := hh
  refine am_e_iload_n n37_0 rfl ?_
  by_cases hb : (a : Int32) < 0
  · refine am_e_ifT n37_1 (am_c_ltT hb) t37_1 ?_
    refine am_e_iconst (w := 0) n37_9 rfl ?_
    exact am_e_iret c37_10 rfl rfl rfl ⟨rfl, rfl, rfl⟩
  · refine am_e_ifF n37_1 (am_c_ltF hb) ?_
    refine am_e_iload_n n37_2 rfl ?_
    refine am_e_aload_n n37_3 rfl ?_
    refine am_e_getf (v := .ref 2) n37_4 rfl h1 ?_
    refine am_e_getf (v := .int 0) n37_5 rfl h2 ?_
    refine am_e_cmpT n37_6 (am_c_geT hb) t37_6 ?_
    refine am_e_iconst (w := 0) n37_9 rfl ?_
    exact am_e_iret c37_10 rfl rfl rfl ⟨rfl, rfl, rfl⟩
/-- two kinds of words more that come by what stands beside the heap -/
def am_dc : Cond → Bool
  | .declares _ => true
  | .castable .. => true
  | _ => false
def am_tc : List Cond := lw_tbl.filter am_dc
theorem am_dc_use {w : Cond} (h : am_dc w = true) {a : Array Value} {U : State} (hw : w.before #[] U = true) : w.before a U = true := by
  cases w with
  | declares x => exact va_Nw.use rfl hw
  | castable C T => exact va_Nw.use rfl hw
  | _ => cases h
def am_okW (w : Cond) : Bool := lw_tbl.any (fun z => decide (z = w)) && (goodWord w || am_dc w)
theorem am_okW_ok {L : List Cond} (h : L.all am_okW = true) {w : Cond} (hw : w ∈ L) : w ∈ am_ts ∨ (w ∈ am_tc ∧ am_dc w = true) := by
  have h1 := List.all_eq_true.mp h w hw
  unfold am_okW at h1
  rw [Bool.and_eq_true, Bool.or_eq_true] at h1
  obtain ⟨z, hz, e⟩ := List.any_eq_true.mp h1.1
  have := of_decide_eq_true e
  subst this
  rcases h1.2 with h2 | h2
  · exact Or.inl (List.mem_filter.mpr ⟨hz, h2⟩)
  · exact Or.inr ⟨List.mem_filter.mpr ⟨hz, h2⟩, h2⟩
set_option maxRecDepth 1000000 in
theorem am_atS_ok : (vx_atS "AirBed" 143 am_IX am_IXn).all am_okW = true := by decide +kernel
set_option maxRecDepth 1000000 in
theorem am_cast_ok : ([Cond.castable am_IX am_IX] : List Cond).all am_okW = true := by decide +kernel
theorem am_atS_ot : (Cond.classLink "AirBed" 139 am_IX :: Cond.initialized am_IX :: vx_atS "AirBed" 143 am_IX am_IXn).all vx_ot = true := by decide +kernel
/-- what the throw needs of old cells -/
def am_TL (B : Nat) (U : State) : Prop := vx_Zq Bundle.tN "UNASSIGNED_STACK" Bundle.steD (fun q => B ≤ q) U U.heap ∧ vx_Zq Bundle.tN "SUPPRESSED_SENTINEL" Bundle.listD (fun q => B ≤ q) U U.heap ∧ (∃ sa, vk_R "AirBed" 141 "no such blower" sa U) ∧ ∀ w ∈ am_tc, w.before #[] U = true
section AMLK
variable {l : Launch} {D : va_G} {B : Nat} {x : Nat → Nat} {TX : State → Prop}
theorem am_Rel_kept {cl : List vw_C} {ks : List am_k} {h : am_H} {n n' : Nat} {U : State} {H H' : Heap} (hR : am_Rel D cl B x false ks h n U H) (hk : ∀ q : Nat, q < H.size → H'[q]? = H[q]?) : am_Rel D cl B x false ks h n' U H' := by
  obtain ⟨hK, dA, hP, hA, hz⟩ := hR
  exact ⟨hK, dA, hP.kept (fun k q hq => hk _ (vx_lt hP hq)), hA, fun h9 => by cases h9⟩
abbrev am_XC (D : va_G) (B : Nat) (x : Nat → Nat) (ks : List am_k) (h : am_H) : String → State → State → Prop := vx_X (S := Unit) (fun _ => True) (fun E _ t => E = am_IX ∧ am_Rel D am_cls B x false ks h (B + ks.length) t t.heap) (fun q => B ≤ q)
abbrev am_QN (B : Nat) : Array Value → State → Outcome → State → Prop := va_Qi (S := Unit) (fun _ _ => False) (fun _ _ => True) (fun q => B ≤ q)
theorem am_look_met (hl0 : l.stackTraces = false) (hTm : am_TXm B TX) (hTN : am_TN TX) (hTx : am_TxOK l B x am_txt TX) (hTL : ∀ U, TX U → am_TL B U) {h : am_H} (hh : am_lkH am_ks0 h) (a b : Int32) :
    vx_Met l am_mK.1.2.1 (am_ws am_mK) (am_rm am_mK) (am_Pc D am_cls B x false TX [.ref 0, .int a, .int b] am_ks0 h) (am_QN B) (am_XC D B x am_ks0 h) 1 6 (fun q => B ≤ q) := by
  have hcode : Cond.code am_mK.1.2.1 am_mK.1.2.2 am_mK.2.1.1 am_mK.2.1.2.1 ∈ am_ts := am_w_ok (i := 1264) (by decide +kernel)
  refine vx_ofW (cc := am_mK.1.2.2) (maxL := 3) (ret := some .int) rfl rfl ?_
  intro p e s m args below meth c s₁ Bd hml htab hv
  obtain ⟨rfl, hrel, hB, hT⟩ := hv
  have hts0 := atoms_spec (ws := am_ws am_mK) Bd.pre
  have hts : ∀ w ∈ am_ts, w.before _ s = true := fun w hw => hts0 w (List.mem_cons_of_mem _ hw)
  have hx := Bd.exec
  have hb : c.code = am_mK.1.2.2 := Bd.bytes
  have hown : s.vm.findClass "AirBed" = some m.cls := findClass_of_methodNamed Bd.named
  have hl := lv_entry ([Value.ref 0, .int a, .int b].map (am_c B x)) (n := 3) (Nat.le_of_ble_eq_true rfl)
  rw [lg_entry_eq]
  generalize (lg_sl ([Value.ref 0, .int a, .int b].map (am_c B x)) ++ List.replicate (3 - (lg_sl ([Value.ref 0, .int a, .int b].map (am_c B x))).length) Slot.unset).toArray = L at hl ⊢
  have l0 : L[0]? = some (.val (.ref (B + 0))) := lv_at hl 0 rfl
  have l1 : L[1]? = some (.val (.int a)) := lv_at hl 1 rfl
  refine lv_aload_n hx hb (by decide +kernel : decode am_mK.1.2.2 0 = .ok (.aload_n 0, 1)) rfl l0 ?_
  refine lv_iload_n hx hb (by decide +kernel : decode am_mK.1.2.2 1 = .ok (.iload_n 1, 1)) rfl l1 ?_
  obtain ⟨nR, r, hrun, hr1, hr2, hr3⟩ := am_lk_isB hh a
  have hrr : r = (some (.int 0), am_ks0, h) := by
    obtain ⟨r1, r2, r3⟩ := r
    dsimp only at hr1 hr2 hr3
    rw [hr1, hr2, hr3]
  subst hrr
  have hmet : am_Met l D am_cls B x false TX am_m37 [.ref 0, .int a] am_ks0 h (some (.int 0), am_ks0, h) := am_met (a := 37) hTm hTN (G := am_G0) hTx (am_okG_ok _ _) (am_okP_ok _ _) rfl (Nat.le_of_ble_eq_true rfl) hrun
  have hK := hrel.1
  obtain ⟨dA, hP, hA, hz⟩ := hrel.2
  have he := am_W_some (cl := am_cls) (B := B) (x := x) (dA := dA) (h := h) (i := 0) (ks := am_ks0) (k := .inl 0) rfl
  have hrcv := va_recv hK hP (ci := 0) rfl he
  refine am_call_use (va_runV (own := "AirBed") (C := "AirBed") (Ts := am_ts) (cc := am_mK.1.2.2) (nL := 3) (As := [Value.int a]) (rest := []) ⟨hx, hb, hml, hown, hts⟩ hmet (cwV 1 hts (am_good (fun w hw => ?_)) rfl rfl rfl ⟨rfl, by decide, by decide, by decide +kernel⟩ (by decide)) ⟨am_Pc_blind hTm, hrcv, fun U hU hWm => ⟨rfl, ?_⟩⟩ rfl rfl hl.1 rfl (lv_room (by decide)) (by decide +kernel : decode am_mK.1.2.2 2 = .ok (.invokevirtual 135, 3)) (by decide)) va_S.rf ?_
  · simp only [wsV, am_ws, List.mem_append, List.mem_cons, List.not_mem_nil, or_false] at hw
    rcases hw with (rfl | rfl | rfl | rfl) | rfl | hw
    · exact am_w_ok (i := 943) (by decide +kernel)
    · exact am_w_ok (i := 945) (by decide +kernel)
    · exact am_w_ok (i := 28) (by decide +kernel)
    · exact am_w_ok (i := 118) (by decide +kernel)
    · exact am_w_ok (i := 946) (by decide +kernel)
    · exact hw
  · refine ⟨am_Rel.moved hWm.alike ?_, by rw [hU]; exact hB, hTm s U (Or.inr hWm) (fun q _ => by rw [hU]) hT⟩
    rw [hU]
    exact hrel
  intro H1 locs1 hrel1 hS1
  refine lv_if_ne (tgt := 18) hx hb (by decide +kernel : decode am_mK.1.2.2 5 = .ok (.ifCond .ne 13, 3)) rfl (fun h9 => absurd rfl h9) (fun _ => ?_)
  obtain ⟨z1, z2, ⟨sa, z3⟩, z4⟩ := hTL s hT
  refine vx_throwS hx hb hl0 (names := am_IXn) (text := "no such blower") (sa := sa) (cls := am_IX) (ik := 139) (is := 141) (ic := 143) (A := fun q => B ≤ q) hown (by decide +kernel) (by decide +kernel) (hts _ (am_w_ok (i := 1265) (by decide +kernel))) (hts _ (am_w_ok (i := 139) (by decide +kernel))) z3 (fun w hw => (am_okW_ok am_atS_ok hw).elim (hts w) (fun q => am_dc_use q.2 (z4 w q.1))) (fun w hw => List.all_eq_true.mp am_atS_ot w hw) z1 z2 hS1 (hl.1.trans hml.symm)
    (by decide +kernel : decode am_mK.1.2.2 8 = .ok (.new 139, 3)) (by decide +kernel : decode am_mK.1.2.2 11 = .ok (.dup, 1)) (by decide +kernel : decode am_mK.1.2.2 12 = .ok (.ldc 141, 2)) (by decide +kernel : decode am_mK.1.2.2 14 = .ok (.invokespecial 143, 3)) (by decide +kernel : decode am_mK.1.2.2 17 = .ok (.athrow, 1)) (fun z hz => (htab z hz).elim) (by decide) (by decide) (by decide) (by decide) Bd.notSynchronized ?_ hS1.2.2 (by decide) (by decide)
  intro t hal hsz hkeep
  refine ⟨(), trivial, ⟨rfl, am_Rel_kept (am_Rel.moved hal hrel1) hkeep⟩, Nat.le_trans hS1.1 hsz, fun q h1 h2 => ?_⟩
  rw [hkeep q (Nat.lt_of_lt_of_le h1 hS1.1)]
  exact hS1.2.1 q h1 h2
theorem am_L_met (hl0 : l.stackTraces = false) (hTm : am_TXm B TX) (hTN : am_TN TX) (hTx : am_TxOK l B x am_txt TX) (hTL : ∀ U, TX U → am_TL B U) {h : am_H} (hh : am_lkH am_ks0 h) (a b : Int32) (o : Nat) :
    am_MetL l D am_cls B x false TX am_mL am_hh [.ref 0, .int a, .int b, .ref o] am_ks0 h (some (.int 1), am_ks0, h) := by
  refine va_MetW (cc := am_mL.1.2.2) (maxL := 5) (ret := some .int) (hh := am_hh) rfl rfl ?_
  intro p e s m args below meth c s₁ Bd hml hv
  obtain ⟨rfl, hrel, hB, hT⟩ := hv
  have hts0 := atoms_spec (ws := am_wsL am_mL am_hh) Bd.pre
  have hts : ∀ w ∈ am_ts, w.before _ s = true := fun w hw => hts0 w (List.mem_cons_of_mem _ hw)
  have htab := vx_table (x := am_mL.1.2.1) Bd (hts0 _ List.mem_cons_self)
  have hx := Bd.exec
  have hb : c.code = am_mL.1.2.2 := Bd.bytes
  have hown : s.vm.findClass "AirBedLaw" = some m.cls := findClass_of_methodNamed Bd.named
  have hl := lv_entry ([Value.ref 0, .int a, .int b, .ref o].map (am_c B x)) (n := 5) (Nat.le_of_ble_eq_true rfl)
  rw [lg_entry_eq]
  generalize (lg_sl ([Value.ref 0, .int a, .int b, .ref o].map (am_c B x)) ++ List.replicate (5 - (lg_sl ([Value.ref 0, .int a, .int b, .ref o].map (am_c B x))).length) Slot.unset).toArray = L at hl ⊢
  have l0 : L[0]? = some (.val (.ref (B + 0))) := lv_at hl 0 rfl
  have l1 : L[1]? = some (.val (.int a)) := lv_at hl 1 rfl
  have l2 : L[2]? = some (.val (.int b)) := lv_at hl 2 rfl
  have l3 : L[3]? = some (.val (.ref (B + o))) := lv_at hl 3 rfl
  refine lv_aload_n hx hb (by decide +kernel : decode am_mL.1.2.2 0 = .ok (.aload_n 3, 1)) rfl l3 ?_
  refine lv_iconst (v := 0) hx hb (by decide +kernel : decode am_mL.1.2.2 1 = .ok (.iconst 0, 1)) (by decide) ?_
  refine lv_aload_n hx hb (by decide +kernel : decode am_mL.1.2.2 2 = .ok (.aload_n 0, 1)) rfl l0 ?_
  refine lv_iload_n hx hb (by decide +kernel : decode am_mL.1.2.2 3 = .ok (.iload_n 1, 1)) rfl l1 ?_
  refine lv_iload_n hx hb (by decide +kernel : decode am_mL.1.2.2 4 = .ok (.iload_n 2, 1)) rfl l2 ?_
  have hK := hrel.1
  obtain ⟨dA, hP, hA, hz⟩ := hrel.2
  have he := am_W_some (cl := am_cls) (B := B) (x := x) (dA := dA) (h := h) (i := 0) (ks := am_ks0) (k := .inl 0) rfl
  have hrcv := va_recv hK hP (ci := 0) rfl he
  refine vx_calli (vx_runV (own := "AirBedLaw") (C := "AirBed") (Ts := am_ts) (cc := am_mL.1.2.2) (nL := 5) (As := [Value.int a, .int b]) (rest := [.int 0, .ref (B + o)]) ⟨hx, hb, hml, hown, hts⟩ (am_look_met (D := D) hl0 hTm hTN hTx hTL hh a b) (cwV 2 hts (am_good (fun w hw => ?_)) rfl rfl rfl ⟨rfl, by decide, by decide, by decide +kernel⟩ (by decide)) ⟨am_Pc_blind hTm, hrcv, fun U hU hWm => ⟨rfl, ?_⟩⟩ rfl rfl hl.1 rfl (lv_room (Nat.le_of_ble_eq_true rfl)) (by decide +kernel : decode am_mL.1.2.2 5 = .ok (.invokevirtual 7, 3)) (by decide)) (va_S.rf (A := fun q => B ≤ q)) (fun q _ h9 => h9) (fun q h9 => h9) (fun q _ h9 => h9) ?_ (fun r u t H1 locs1 _ _ hp => hp.elim)
  · simp only [wsV, am_ws, List.mem_append, List.mem_cons, List.not_mem_nil, or_false] at hw
    rcases hw with (rfl | rfl | rfl | rfl) | rfl | hw
    · exact am_w_ok (i := 1261) (by decide +kernel)
    · exact am_w_ok (i := 1262) (by decide +kernel)
    · exact am_w_ok (i := 1263) (by decide +kernel)
    · exact am_w_ok (i := 118) (by decide +kernel)
    · exact am_w_ok (i := 1264) (by decide +kernel)
    · exact hw
  · refine ⟨am_Rel.moved hWm.alike ?_, by rw [hU]; exact hB, hTm s U (Or.inr hWm) (fun q _ => by rw [hU]) hT⟩
    rw [hU]
    exact hrel
  intro E ce q9 u t H1 locs1 htH hal _ hBX hsz hkeep hS1 hce hcv hcl
  obtain ⟨rfl, hrel1⟩ := hBX
  refine am_catch (own := "AirBedLaw") (name := am_IX) hown (suf := [⟨0, 10, 17, 15⟩]) (x := ⟨0, 10, 13, 13⟩) (htab.trans rfl) (by decide) (by decide) (hts _ (am_w_ok (i := 1259) (by decide +kernel))) ((am_okW_ok am_cast_ok List.mem_cons_self).elim (hts _) (fun q => am_dc_use q.2 ((hTL s hT).2.2.2 _ q.1))) hce hcv hcl ?_
  refine lv_astore hx hb (by decide +kernel : decode am_mL.1.2.2 13 = .ok (.astore 4, 2)) hl (by decide) rfl (fun L' _ => ?_)
  refine lv_iconst (v := 1) hx hb (by decide +kernel : decode am_mL.1.2.2 15 = .ok (.iconst 1, 1)) (by decide) ?_
  refine W.widen (k := 4) (n := 40) (by decide) (by decide) ?_
  refine W.iret hx hb Bd.returns (fun t' ht' hWm => ⟨rfl, ?_, hS1.F ht'⟩) hS1.2.2 (by decide +kernel : decode am_mL.1.2.2 16 = .ok (.ireturn, 1)) Bd.notSynchronized
  have h9 : am_Rel D am_cls B x false am_ks0 h (B + am_ks0.length) s t.heap := am_Rel.moved hal.symm hrel1
  rw [htH, ← ht'] at h9
  exact am_Rel.moved hWm.alike h9
end AMLK
/-- the one table of handlers -/
def am_isCw (w : Cond) : Bool := match w with
  | .codeWith y _ _ _ hh => !decide (y = am_mL.1.2.1) || decide (hh = am_hh)
  | _ => true
set_option maxRecDepth 1000000 in
theorem am_cw_tbl : lw_tbl.all am_isCw = true := by decide +kernel
theorem am_cw_one {bs : ByteArray} {n : Nat} {ret : Option FieldType} {hh : List (Nat × Nat × Nat × Nat)} (h : Cond.codeWith am_mL.1.2.1 bs n ret hh ∈ lw_tbl) : hh = am_hh := by
  have := List.all_eq_true.mp am_cw_tbl _ h
  simpa [am_isCw] using this
/-- what the law's look does, on a new object -/
def am_lk : List Value → List am_k → am_H → Option am_O := fun as ks h => match as with
  | [.ref 0, .int _, .int _, .ref _] => if ks = am_ks0 ∧ h 0 2 = .ref 2 ∧ h 2 2 = .int 0 then some (some (.int 1), ks, h) else none
  | _ => none
theorem am_lk_met {l : Launch} {D : va_G} {B : Nat} {x : Nat → Nat} {TX : State → Prop} (hl0 : l.stackTraces = false) (hTm : am_TXm B TX) (hTN : am_TN TX) (hTx : am_TxOK l B x am_txt TX) (hTL : ∀ U, TX U → am_TL B U) {scr : Option (Nat × (Nat → Int32))} :
    ∀ (hh : List (Nat × Nat × Nat × Nat)), am_okL (am_P1 scr am_lk) hh → ∀ (as : List Value) (ks : List am_k) (h : am_H) (r : am_O), (am_P1 scr am_lk).2.2.2.2.2.2 as ks h = some r → am_MetL l D am_cls B x false TX (am_P1 scr am_lk).2.2.2.2.2.1 hh as ks h r := by
  intro hh hok as ks h r hr
  have hr2 : am_lk as ks h = some r := hr
  unfold am_lk at hr2
  split at hr2
  · rename_i a b o
    split at hr2
    · rename_i hc
      obtain ⟨rfl, h1, h2⟩ := hc
      cases hr2
      have hmet := am_L_met (D := D) (x := x) hl0 hTm hTN hTx hTL (h := h) ⟨rfl, h1, h2⟩ a b o
      have := am_cw_one (am_ts_tbl hok.2.2.1)
      subst this
      exact hmet
    · cases hr2
  · cases hr2
theorem am_lk_at {h : am_H} (h1 : h 0 2 = .ref 2) (h2 : h 2 2 = .int 0) (a b : Int32) (o : Nat) : am_lk [.ref 0, .int a, .int b, .ref o] am_ks0 h = some (some (.int 1), am_ks0, h) := by
  unfold am_lk
  generalize am_ks0 = ks
  exact if_pos ⟨rfl, h1, h2⟩
theorem am_e_look {M : am_M} {k pc len idx a b : Nat} {z : Int} {ls : am_L} {st ar rest : List Value} {ks : List am_k} {h : am_H} {nc ns : Nat} {Q : Option Value → List am_k → am_H → Prop} {scr : Option (Nat × (Nat → Int32))} {v : Value} (hn : am_nxt M k (pc, len, .invokestatic idx, (a, b, 0), z)) (ht : st.take 4 = ar) (hd : st.drop 4 = rest) (hl : Nat.beq ar.length 4 = true)
    (hok : am_okC M am_mL ar.reverse rest nc ns = true) (hlk : am_lk ar.reverse ks h = some (some v, ks, h)) (K : am_Ek false (am_P1 scr am_lk) M (k + 1) ls (v :: rest) ks h (nc + 4) (ns + 40) Q) : am_Ek false (am_P1 scr am_lk) M k ls st ks h nc ns Q := by
  refine am_e_of hn (fun _ => rfl) (fun cs => ?_) K
  show cond (Nat.beq (st.take 4).length 4) (am_calls false M am_mL 0 (fun _ as ks h => am_lk as ks h) _ cs ls (st.take 4).reverse (st.drop 4) ks h nc ns) none = _
  rw [ht, hd, hl, cond_true]
  unfold am_calls
  rw [hok, cond_true]
  simp only [hlk]
  rfl
