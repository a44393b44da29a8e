/-! ===== LOOK: it returns or throws (rows as in p1) ===== -/
/-! ===== RUNS WITH AN END OF THEIR OWN ===== -/
section AMRQ
variable {l : Launch} {D : va_G} {B : Nat} {x : Nat → Nat} {ex : Bool} {TX : State → Prop} {scr : Option (Nat × (Nat → Int32))} {lk : List Value → List am_k → am_H → Option am_O} {M : am_M} {p : Program} {e : Env} {s : State} {m : MethodId} {args : Array Value} {below : List Frame} {meth : Method} {c : Code} {Q : State → Prop}
theorem am_stepR (hTm : am_TXm B TX) (hTN : am_TN TX) (hTx : am_TxOK l B x am_txt TX) (hM : ∀ i ∈ M.2.2.2, am_okI am_cls (am_P1 scr lk) M i)
    (hLk : ∀ (hh : List (Nat × Nat × Nat × Nat)), am_okL (am_P1 scr lk) hh → ∀ (as : List Value) (ks : List am_k) (h : am_H) (r : am_O), (am_P1 scr lk).2.2.2.2.2.2 as ks h = some r → am_MetL l D am_cls B x ex TX (am_P1 scr lk).2.2.2.2.2.1 hh as ks h r)
    (C : am_C p s m args meth c M) (hscr : am_scr (am_P1 scr lk) B x s) (hT : TX s) (hB : B ≤ s.heap.size) {n : Nat} {f f' : am_F} (hf : ∀ i ∈ f.1, am_okI am_cls (am_P1 scr lk) M i)
    (hone : am_one am_φ ex (am_P1 scr lk) (am_rc ex n (am_P1 scr lk)) M f = some (.inl f')) (hW : am_Wf p l e (am_rm M) s m args below meth c D am_cls B x ex M.2.1.1 Q f') : am_Wf p l e (am_rm M) s m args below meth c D am_cls B x ex M.2.1.1 Q f := by
  obtain ⟨fc, ls, st, ks, h, nc, ns⟩ := f
  cases fc with
  | nil => cases hone
  | cons i cs =>
    obtain ⟨hTA, hTB⟩ := hTx p e s m args below meth c M C hT hB
    refine am_step C (am_okG_ok scr lk) rfl hB hTm hT hTA hTB hscr ?_ hLk (hf i List.mem_cons_self) hone hW
    intro a M' as ks h r hM' hcat hrc
    have hrc2 : am_run am_φ ex n (am_noS (am_P1 scr lk)) M' (M'.2.2.2, lv_args 0 as, [], ks, h, 0, 0) = some r := by
      unfold am_rc at hrc
      rw [hM'] at hrc
      exact hrc
    exact am_met hTm hTN (G := am_P1 scr lk) hTx (am_okG_ok scr lk) (am_okP_ok scr lk) hM' hcat hrc2
theorem am_runQ (hTm : am_TXm B TX) (hTN : am_TN TX) (hTx : am_TxOK l B x am_txt TX) (hM : ∀ i ∈ M.2.2.2, am_okI am_cls (am_P1 scr lk) M i)
    (hLk : ∀ (hh : List (Nat × Nat × Nat × Nat)), am_okL (am_P1 scr lk) hh → ∀ (as : List Value) (ks : List am_k) (h : am_H) (r : am_O), (am_P1 scr lk).2.2.2.2.2.2 as ks h = some r → am_MetL l D am_cls B x ex TX (am_P1 scr lk).2.2.2.2.2.1 hh as ks h r)
    (C : am_C p s m args meth c M) (hscr : am_scr (am_P1 scr lk) B x s) (hT : TX s) (hB : B ≤ s.heap.size) {r : am_O}
    (hfin : ∀ f : am_F, am_end M f = some r → (∀ i ∈ f.1, am_okI am_cls (am_P1 scr lk) M i) → am_Wf p l e (am_rm M) s m args below meth c D am_cls B x ex M.2.1.1 Q f) :
    ∀ (n : Nat) (f : am_F), (∀ i ∈ f.1, am_okI am_cls (am_P1 scr lk) M i) → am_run am_φ ex n (am_P1 scr lk) M f = some r → am_Wf p l e (am_rm M) s m args below meth c D am_cls B x ex M.2.1.1 Q f := by
  intro n
  induction n with
  | zero => intro f _ h; cases h
  | succ n ih =>
    intro f hf hrun
    rw [am_run_s] at hrun
    split at hrun
    · rename_i r0 hend
      cases hrun
      exact hfin f hend hf
    · split at hrun
      · rename_i f' hone
        refine am_stepR hTm hTN hTx hM hLk C hscr hT hB hf hone (ih f' ?_ hrun)
        obtain ⟨fc, ls, st, ks, h, nc, ns⟩ := f
        cases fc with
        | nil => cases hone
        | cons i cs => exact am_one_sub (K := fun l => ∀ i ∈ l, am_okI am_cls (am_P1 scr lk) M i) (fun j hj => hf j (List.mem_cons_of_mem _ hj)) (fun a j hj => hM j (List.mem_of_mem_drop hj)) (fun t j hj => hM j (am_seek_sub hj)) f' hone
      · cases hrun
end AMRQ
def am_IX : String := "java/lang/IndexOutOfBoundsException"
def am_IXn : List String := ["java/lang/RuntimeException", "java/lang/Exception"]
/-- two kinds of words more that come by what stands beside the heap -/
def am_dc : Cond → Bool
  | .declares _ => true
  | .castable .. => true
  | _ => false
def am_tc : List Cond := lw_tbl.filter am_dc
theorem am_dc_use {w : Cond} (h : am_dc w = true) {a : Array Value} {U : State} (hw : w.before #[] U = true) : w.before a U = true := by
  cases w with
  | declares x => exact va_Nw.use rfl hw
  | castable C T => exact va_Nw.use rfl hw
  | _ => cases h
def am_okW (w : Cond) : Bool := lw_tbl.any (fun z => decide (z = w)) && (goodWord w || am_dc w)
theorem am_okW_ok {L : List Cond} (h : L.all am_okW = true) {w : Cond} (hw : w ∈ L) : w ∈ am_ts ∨ (w ∈ am_tc ∧ am_dc w = true) := by
  have h1 := List.all_eq_true.mp h w hw
  unfold am_okW at h1
  rw [Bool.and_eq_true, Bool.or_eq_true] at h1
  obtain ⟨z, hz, e⟩ := List.any_eq_true.mp h1.1
  have := of_decide_eq_true e
  subst this
  rcases h1.2 with h2 | h2
  · exact Or.inl (List.mem_filter.mpr ⟨hz, h2⟩)
  · exact Or.inr ⟨List.mem_filter.mpr ⟨hz, h2⟩, h2⟩
set_option maxRecDepth 1000000 in
theorem am_atS_ok : (vx_atS "AirBed" 143 am_IX am_IXn).all am_okW = true := by decide +kernel
set_option maxRecDepth 1000000 in
theorem ag_atS_ok : (ag_own.filter vx_no).all am_okW = true := by decide +kernel
set_option maxRecDepth 1000000 in
theorem am_cast_ok : ([Cond.castable am_IX am_IX, Cond.castable ag_NS ag_NS] : List Cond).all am_okW = true := by decide +kernel
theorem am_atS_ot : (Cond.classLink "AirBed" 139 am_IX :: Cond.initialized am_IX :: vx_atS "AirBed" 143 am_IX am_IXn).all vx_ot = true := by decide +kernel
theorem ag_atS_ot : (Cond.classLink "AirBed" 164 ag_NS :: Cond.initialized ag_NS :: ag_own.filter vx_no).all vx_ot = true := by decide +kernel
/-- the one isn't the other -/
def ag_NC (U : State) : Prop := ∀ a b, U.vm.findClass ag_NS = some a → U.vm.findClass am_IX = some b → U.vm.assignable a b = false
/-- what the throws need of old cells -/
def am_TL (B : Nat) (U : State) : Prop := vx_Zq Bundle.tN "UNASSIGNED_STACK" Bundle.steD (fun q => B ≤ q) U U.heap ∧ vx_Zq Bundle.tN "SUPPRESSED_SENTINEL" Bundle.listD (fun q => B ≤ q) U U.heap ∧ (∃ sa, vk_R "AirBed" 141 "no such blower" sa U) ∧ (∃ sa, vk_R "AirBed" 166 "no such what" sa U) ∧ ag_NC U ∧ ∀ w ∈ am_tc, w.before #[] U = true
theorem ag_okK (scr : Option (Nat × (Nat → Int32))) (lk : List Value → List am_k → am_H → Option am_O) : ∀ i ∈ am_mK.2.2.2, am_okI am_cls (am_P1 scr lk) am_mK i := fun i hi => am_chkI_ok (List.all_eq_true.mp ag_ckK i hi)
theorem ag_okT (scr : Option (Nat × (Nat → Int32))) (lk : List Value → List am_k → am_H → Option am_O) : ∀ i ∈ am_mLt.2.2.2, am_okI am_cls (am_P1 scr lk) am_mLt i := fun i hi => am_chkI_ok (List.all_eq_true.mp ag_ckT i hi)
section AGC
variable {G : am_G} {M M' : am_M} {pc len : Nat} {z : Int} {ls : am_L} {st : List Value} {ks : List am_k} {h h' : am_H} {nc ns : Nat} {rc : am_rec}
theorem ag_o_callV {idx a b c o : Nat} {ar rest : List Value} {r : Option Value} (hM : G.1 a = some M') (ht : st.take M'.2.1.2.2 = ar) (hd : st.drop M'.2.1.2.2 = .ref o :: rest) (hl : Nat.beq ar.length M'.2.1.2.2 = true) (hk : ks[o]? = some (.inl M'.1.1)) (hok : am_okC M M' (.ref o :: ar.reverse) rest nc ns = true) (hz : M'.2.2.1.2.2 = (0, 0)) (hrc : rc a (.ref o :: ar.reverse) ks h = some (r, ks, h')) :
    ∀ cs, am_one am_φ false G rc M ((pc, len, .invokevirtual idx, (a, b, c + 1), z) :: cs, ls, st, ks, h, nc, ns) = am_go (pc, len, .invokevirtual idx, (a, b, c + 1), z) cs ls (r.toList ++ rest) ks h' nc ns := by
  intro cs
  show am_callV false G M rc _ cs ls st ks h nc ns = _
  unfold am_callV
  simp only [hM, hd, hk, ht, Nat.beq_refl, hl, Bool.and_self, cond_true]
  unfold am_calls
  simp only [hok, cond_true, hrc, Bool.not_false, Bool.true_or, hz, Nat.add_zero]
end AGC
section AGTH
variable {p : Program} {l : Launch} {e : Env} {R : Room} {s : State} {m : MethodId} {args : Array Value} {below : List Frame} {meth : Method} {c : Code} {H : Heap} {locs : List Loc} {cells slots : Nat} {Qc : Array Value → State → Outcome → State → Prop} {XC : String → State → State → Prop} {free : Addr → Prop} {ls : Array Slot} {rest : List Value}
/-- as vx_throwS, by ag_made -/
theorem ag_throwN {cc : ByteArray} {pc : Nat} (hexec : p.tables.exec = Jvm.exec) (hb : c.code = cc) (hl : l.stackTraces = false) {text : String} {ik is mc ms sa : Nat} {A : Nat → Prop}
    (hown : s.vm.findClass "AirBed" = some m.cls) (hk : (Cond.classLink "AirBed" ik ag_NS).before args s = true) (hini : (Cond.initialized ag_NS).before args s = true) (hstr : vk_R "AirBed" is text sa s) (hat : ∀ w ∈ ag_own.filter vx_no, w.before args s = true)
    (hgood : ∀ w ∈ Cond.classLink "AirBed" ik ag_NS :: Cond.initialized ag_NS :: ag_own.filter vx_no, vx_ot w = true)
    (hU : vx_Zq Bundle.tN "UNASSIGNED_STACK" Bundle.steD A s s.heap) (hN : vx_Zq Bundle.tN "SUPPRESSED_SENTINEL" Bundle.listD A s s.heap) (hS : va_S A s.heap H locs) (hsize : ls.size = c.maxLocals)
    (d0 : decode cc pc = .ok (.new ik, 3)) (d3 : decode cc (pc + 3) = .ok (.dup, 1)) (d4 : decode cc (pc + 4) = .ok (.ldc is, 2)) (d6 : decode cc (pc + 6) = .ok (.invokespecial 168, 3)) (d9 : decode cc (pc + 9) = .ok (.athrow, 1))
    (hout : ∀ x ∈ c.exceptionTable.toList, covers x (pc + 9) = false)
    (hRframes : 5 < R.frames) (hRlocals : (rest.map fun v => v.category).sum + 82 ≤ R.locals) (hRcells : cells + 1 ≤ R.cells) (hRslots : slots + 6 ≤ R.slots) (hlocks : meth.locks = false)
    (hx : ∀ t : State, s.vm.Alike t.vm → H.size ≤ t.heap.size → (∀ q : Nat, q < H.size → t.heap[q]? = H[q]?) → XC ag_NS s t)
    (hf : ∀ z ∈ locs, free z.base) (hc : cells + 1 ≤ mc) (hs : slots + 6 ≤ ms) :
    W p l e R s m args below meth c H locs cells slots (vx_MQ below Qc XC args s mc ms free) (F0 m pc ls rest) := by
  intro T hT X
  have htr : e.platform.stackTraces = false := (show e.platform.stackTraces = l.stackTraces by rw [X.admits.platform]).trans hl
  have Y := vx_rebase X (R' := { frames := R.frames, locals := R.locals, cells := 1, slots := 6 }) (Nat.le_refl _) (Nat.le_refl _) hRcells hRslots
  obtain ⟨s', hA⟩ : ∃ z, z = (T.setVm s.vm).setFrames (.invoking m args :: below) := ⟨_, rfl⟩
  rw [← hA] at Y
  have hvm : s'.vm = s.vm := by rw [hA]; rfl
  have hhp : s'.heap = H := by rw [hA]; exact hT
  have hW0 : s.WarmedH s'.vm := by rw [hvm]; exact State.WarmedH.refl s
  have hat' : ∀ w ∈ ag_own.filter vx_no, w.before args s' = true := fun w hw => vx_ot_at hW0 hvm.symm (hgood w (List.mem_cons_of_mem _ (List.mem_cons_of_mem _ hw))) (hat w hw)
  have hk' : (Cond.classLink "AirBed" ik ag_NS).before args s' = true := vx_ot_at hW0 hvm.symm (hgood _ List.mem_cons_self) hk
  have hini' : (Cond.initialized ag_NS).before args s' = true := vx_ot_at hW0 hvm.symm (hgood _ (List.mem_cons_of_mem _ List.mem_cons_self)) hini
  have hU' : vx_Zq Bundle.tN "UNASSIGNED_STACK" Bundle.steD A s' s'.heap := by rw [hhp]; exact vx_Zq.moved hW0.alike (hU.kept hS.2.1)
  have hN' : vx_Zq Bundle.tN "SUPPRESSED_SENTINEL" Bundle.listD A s' s'.heap := by rw [hhp]; exact vx_Zq.moved hW0.alike (hN.kept hS.2.1)
  have h : ∀ w ∈ ag_own, w.before args s' = true := vx_own hat' (vx_isRefq hU'.1) (vx_isRefq hN'.1) hU'.2.word hN'.2.word
  have hown' : s'.vm.findClass "AirBed" = some m.cls := by rw [hvm]; exact hown
  have hins : (Cond.instantiable ag_NS 6).before args s' = true := h _ (List.mem_append_left _ (List.mem_of_getElem? (i := 1) rfl))
  obtain ⟨vm₁, cX, kX, hfX, hkX, -, -, X₁, st1⟩ := Y.newCold hexec (own := "AirBed") (C := ag_NS) (index := ik) (n := 6) hown' hk' hins hini'
    (g := F0 m pc ls rest) rfl (by rw [hb]; exact d0) (Nat.le_refl _) (Nat.le_refl _)
  generalize hT1 : (T.setVm vm₁).pushCell { cls := cX, slots := kX.instanceTypes.map defaultValue, vm := .none } = T1 at X₁ st1
  have hcat : (Value.ref T.heap.size).category = 1 := rfl
  have hcellA : T1.heap[T.heap.size]? = some (freshCell cX kX) := by rw [← hT1]; exact State.heap_pushCell_size _ _
  have d3' : decode c.code (pc + 3) = .ok (.dup, 1) := by rw [hb]; exact d3
  have d4' : decode c.code (pc + 4) = .ok (.ldc is, 2) := by rw [hb]; exact d4
  have hstr' : vk_R "AirBed" is text sa s' := vk_R.warm hW0 hstr
  obtain ⟨U, hsteps, hrun, hend, hW, hsame, ce, hce, hcv, hcc⟩ := ag_made X₁ hexec htr hown' h (fun x hx => nomatch hx) hfX hkX hcellA (by rw [hhp, hT]; exact Nat.le_refl _) (msg := .ref sa) rfl
    (g := { method := m, pc := pc + 6, locals := ls, stack := .ref sa :: .ref T.heap.size :: .ref T.heap.size :: rest, locked := none }) rfl hsize rfl rfl (rest := rest) rfl
    (by rw [hb]; exact d6) (by rw [hb]; exact d9) hout hRframes (by simp only [List.map_cons, List.sum_cons, hcat]; omega) hlocks
  obtain ⟨f1, f2⟩ := vx_frame hsame
  rw [hhp] at f1 f2
  have hWs : s.WarmedH U.vm := State.WarmedH.trans hW0 hW
  have hcl : s.vm.findClass ag_NS = some ce.cls := by
    rw [hcc, ← hvm]
    exact hfX
  have hall : s.sameButNew ({ U with vm := s.vm } : State) locs mc ms := by
    subst hA
    obtain ⟨e1, e2⟩ := hsame
    rw [State.setFrames_setFrames] at e1
    have h2 : (T.setVm s.vm).sameButNew ({ U with vm := s.vm } : State) [] (0 + 1) (0 + 6) := ⟨e1, e2⟩
    have h3 := X.same.trans h2
    rw [List.append_nil] at h3
    exact h3.mono hc hs
  refine ⟨U, ?_, .threw T.heap.size, hrun, hend, Or.inr ⟨T.heap.size, rfl, ag_NS, ce, locs, hx U hWs.alike f1 (fun q hq => f2 q hq (fun z hz => nomatch hz)), hce, hcv, hcl, hWs, hall, hf⟩⟩
  refine st1 _ ?_
  show Steps p.tables e below (T1.setTop { method := m, pc := pc + 3, locals := ls, stack := .ref T.heap.size :: rest, locked := none }) _
  jvm_step X₁.here [X₁.here.top, hexec, d3', Value.category]
  exact X₁.ldcString hexec (own := "AirBed") (text := text) (index := is) (a := sa) hown' hstr'.1 hstr'.2
    (g := { method := m, pc := pc + 4, locals := ls, stack := .ref T.heap.size :: .ref T.heap.size :: rest, locked := none }) rfl d4' _ hsteps
end AGTH
section AMLK
variable {l : Launch} {D : va_G} {B : Nat} {x : Nat → Nat} {TX : State → Prop}
theorem am_Rel_kept {cl : List vw_C} {ks : List am_k} {h : am_H} {n n' : Nat} {U : State} {H H' : Heap} (hR : am_Rel D cl B x false ks h n U H) (hk : ∀ q : Nat, q < H.size → H'[q]? = H[q]?) : am_Rel D cl B x false ks h n' U H' := by
  obtain ⟨hK, dA, hP, hA, hz⟩ := hR
  exact ⟨hK, dA, hP.kept (fun k q hq => hk _ (vx_lt hP hq)), hA, fun h9 => by cases h9⟩
abbrev ag_RB (D : va_G) (B : Nat) (x : Nat → Nat) (g : am_H) (t : State) : Prop := am_Rel D am_cls B x false am_ks0 g (B + am_ks0.length) t t.heap
abbrev ag_QN (D : va_G) (B : Nat) (x : Nat → Nat) (PN : Int32 → am_H → Prop) : Array Value → State → Outcome → State → Prop := va_Qi (S := am_H) PN (ag_RB D B x) (fun q => B ≤ q)
abbrev ag_XC (D : va_G) (B : Nat) (x : Nat → Nat) (PX : String → am_H → Prop) : String → State → State → Prop := vx_X (S := am_H) (fun _ => True) (fun E g t => PX E g ∧ ag_RB D B x g t) (fun q => B ≤ q)
abbrev ag_KM (l : Launch) (D : va_G) (B : Nat) (x : Nat → Nat) (TX : State → Prop) (a b : Int32) (h : am_H) (PN : Int32 → am_H → Prop) (PX : String → am_H → Prop) : Prop := vx_Met l am_mK.1.2.1 (am_ws am_mK) (am_rm am_mK) (am_Pc D am_cls B x false TX [.ref 0, .int a, .int b] am_ks0 h) (ag_QN D B x PN) (ag_XC D B x PX) 1 6 (fun q => B ≤ q)
theorem ag_KC (hTm : am_TXm B TX) (hTN : am_TN TX) (hTx : am_TxOK l B x am_txt TX) {h h2 : am_H} {a b v : Int32} (h3 : ag_L3 a b h v h2) : ag_KM l D B x TX a b h (fun v' g => v' = v ∧ g = h2) (fun _ _ => False) := by
  obtain ⟨n, hrun⟩ := h3
  have hmet : am_Met l D am_cls B x false TX am_mK [.ref 0, .int a, .int b] am_ks0 h (some (.int v), am_ks0, h2) := am_met_of (G := am_G0) hTN ⟨am_w_ok (i := 1264) (by decide +kernel), am_w_ok (i := 118) (by decide +kernel), ⟨by decide, by decide, by decide +kernel⟩, rfl, rfl⟩ rfl (Nat.le_of_ble_eq_true rfl) (fun p e s m args below meth c C hT hB => am_run_ok hTm hTN hTx n am_G0 am_mK _ _ (am_okG_ok _ _) (am_okP_ok _ _) rfl (ag_okK _ _) (ag_okK _ _) hrun (fun _ _ _ _ _ _ h9 => by cases h9) p e s m args below meth c C (fun L xs h9 => by cases h9) hT hB)
  unfold am_Met Met at hmet
  exact MetFree.mono hmet (fun _ _ q => q) (fun _ _ _ _ _ q => q) (fun a s o s' _ q => Or.inl ⟨⟨⟨v, h2, q.1.1, ⟨rfl, rfl⟩, q.1.2.1⟩, q.1.2.2⟩, q.2⟩)
/-- a body of look, walked by the small machine as far as it goes -/
theorem ag_Kof (hTm : am_TXm B TX) (hTN : am_TN TX) (hTx : am_TxOK l B x am_txt TX) {h : am_H} {a b : Int32} {PN : Int32 → am_H → Prop} {PX : String → am_H → Prop}
    (body : ∀ (p : Program) (e : Env) (s : State) (m : MethodId) (below : List Frame) (meth : Method) (c : Code), am_C p s m ([Value.ref 0, .int a, .int b].map (am_c B x)).toArray meth c am_mK → TX s → B ≤ s.heap.size → (∀ z ∈ c.exceptionTable.toList, False) →
      (∀ {n k : Nat} {i : am_I} {ls : am_L} {st : List Value} {g : am_H} (ls' : am_L) (st' : List Value) (g' : am_H), am_nxt am_mK k i → (∀ cs, am_one am_φ false am_G0 (am_rc false n am_G0) am_mK (i :: cs, ls, st, am_ks0, g, 0, 0) = am_go i cs ls' st' am_ks0 g' 0 0) →
        am_Wf p l e (am_rm am_mK) s m ([Value.ref 0, .int a, .int b].map (am_c B x)).toArray below meth c D am_cls B x false 3 (vx_MQ below (ag_QN D B x PN) (ag_XC D B x PX) ([Value.ref 0, .int a, .int b].map (am_c B x)).toArray s 1 6 (fun q => B ≤ q)) (am_mK.2.2.2.drop (k + 1), ls', st', am_ks0, g', 0, 0) →
        am_Wf p l e (am_rm am_mK) s m ([Value.ref 0, .int a, .int b].map (am_c B x)).toArray below meth c D am_cls B x false 3 (vx_MQ below (ag_QN D B x PN) (ag_XC D B x PX) ([Value.ref 0, .int a, .int b].map (am_c B x)).toArray s 1 6 (fun q => B ≤ q)) (am_mK.2.2.2.drop k, ls, st, am_ks0, g, 0, 0)) →
      (∀ {n : Nat} {f f' : am_F}, (∀ i ∈ f.1, am_okI am_cls am_G0 am_mK i) → am_one am_φ false am_G0 (am_rc false n am_G0) am_mK f = some (.inl f') →
        am_Wf p l e (am_rm am_mK) s m ([Value.ref 0, .int a, .int b].map (am_c B x)).toArray below meth c D am_cls B x false 3 (vx_MQ below (ag_QN D B x PN) (ag_XC D B x PX) ([Value.ref 0, .int a, .int b].map (am_c B x)).toArray s 1 6 (fun q => B ≤ q)) f' →
        am_Wf p l e (am_rm am_mK) s m ([Value.ref 0, .int a, .int b].map (am_c B x)).toArray below meth c D am_cls B x false 3 (vx_MQ below (ag_QN D B x PN) (ag_XC D B x PX) ([Value.ref 0, .int a, .int b].map (am_c B x)).toArray s 1 6 (fun q => B ≤ q)) f) →
      am_Wf p l e (am_rm am_mK) s m ([Value.ref 0, .int a, .int b].map (am_c B x)).toArray below meth c D am_cls B x false 3 (vx_MQ below (ag_QN D B x PN) (ag_XC D B x PX) ([Value.ref 0, .int a, .int b].map (am_c B x)).toArray s 1 6 (fun q => B ≤ q)) (am_mK.2.2.2.drop 0, lv_args 0 [.ref 0, .int a, .int b], [], am_ks0, h, 0, 0)) : ag_KM l D B x TX a b h PN PX := by
  have hcode : Cond.code am_mK.1.2.1 am_mK.1.2.2 am_mK.2.1.1 am_mK.2.1.2.1 ∈ am_ts := am_w_ok (i := 1264) (by decide +kernel)
  refine vx_ofW (cc := am_mK.1.2.2) (maxL := 3) (ret := some .int) rfl rfl ?_
  intro p e s m args below meth c s₁ Bd hml htab hv
  obtain ⟨rfl, hrel, hB, hT⟩ := hv
  have hts0 := atoms_spec (ws := am_ws am_mK) Bd.pre
  have C : am_C p s m ([Value.ref 0, .int a, .int b].map (am_c B x)).toArray meth c am_mK := ⟨Bd.exec, Bd.bytes, hml, Bd.returns, findClass_of_methodNamed Bd.named, fun w hw => hts0 w (List.mem_cons_of_mem _ hw), Bd.notSynchronized, (name_of_methodNamed Bd.named Bd.method).1, fun w hw => hTN s _ hT w hw⟩
  have step : ∀ {n : Nat} {f f' : am_F}, (∀ i ∈ f.1, am_okI am_cls am_G0 am_mK i) → am_one am_φ false am_G0 (am_rc false n am_G0) am_mK f = some (.inl f') →
        am_Wf p l e (am_rm am_mK) s m ([Value.ref 0, .int a, .int b].map (am_c B x)).toArray below meth c D am_cls B x false 3 (vx_MQ below (ag_QN D B x PN) (ag_XC D B x PX) ([Value.ref 0, .int a, .int b].map (am_c B x)).toArray s 1 6 (fun q => B ≤ q)) f' →
        am_Wf p l e (am_rm am_mK) s m ([Value.ref 0, .int a, .int b].map (am_c B x)).toArray below meth c D am_cls B x false 3 (vx_MQ below (ag_QN D B x PN) (ag_XC D B x PX) ([Value.ref 0, .int a, .int b].map (am_c B x)).toArray s 1 6 (fun q => B ≤ q)) f := fun {n f f'} hf h2 hW => am_stepR (n := n) hTm hTN hTx (ag_okK none (fun _ _ _ => none)) (fun _ _ _ _ _ _ h9 => by cases h9) C (fun L xs h9 => by cases h9) hT hB hf h2 hW
  have hl := lv_entry ([Value.ref 0, .int a, .int b].map (am_c B x)) (n := 3) (Nat.le_of_ble_eq_true rfl)
  rw [lg_entry_eq]
  rw [am_lv_args] at hl
  have main := body p e s m below meth c C hT hB htab (fun {n k i ls st g} ls' st' g' hn h2 hW => by
    have hf : ∀ j ∈ am_mK.2.2.2.drop k, am_okI am_cls am_G0 am_mK j := fun j hj => ag_okK none (fun _ _ _ => none) j (List.mem_of_mem_drop hj)
    rw [hn.1] at hf ⊢
    exact step (n := n) hf ((h2 _).trans (am_go_ok hn.2)) hW) step
  exact main s.heap [] _ _ _ rfl hrel va_S.rf hl
theorem ag_KA (hl0 : l.stackTraces = false) (hTm : am_TXm B TX) (hTN : am_TN TX) (hTx : am_TxOK l B x am_txt TX) (hTL : ∀ U, TX U → am_TL B U) {h : am_H} {a b : Int32} (h1 : ag_L1 a h) : ag_KM l D B x TX a b h (fun _ _ => False) (fun E g => E = am_IX ∧ g = h) := by
  obtain ⟨n, hrun⟩ := h1
  refine ag_Kof hTm hTN hTx (fun p e s m below meth c C hT hB htab go step => ?_)
  refine go (n := 0) [(0, .ref 0), (1, .int a), (2, .int b)] [.ref 0] h (am_nxt_of (i := (0, 1, .aload_n 0, (0, 0, 0), 0)) (by decide +kernel)) (fun _ => rfl) ?_
  refine go (n := 0) [(0, .ref 0), (1, .int a), (2, .int b)] [.int a, .ref 0] h (am_nxt_of (i := (1, 1, .iload_n 1, (0, 0, 0), 0)) (by decide +kernel)) (fun _ => rfl) ?_
  refine go (n := n) [(0, .ref 0), (1, .int a), (2, .int b)] [.int 0] h (am_nxt_of (i := (2, 3, .invokevirtual 135, (70, 943, 3), 0)) (by decide +kernel)) (ag_o_callV (M' := am_m70) (o := 0) (ar := [.int a]) (rest := []) (r := some (.int 0)) rfl rfl rfl rfl ac_o0 rfl rfl hrun) ?_
  obtain ⟨hx, hb, hml, hr, hown, hts, hlk, hnm, htn⟩ := C
  intro H locs L j r hj hR hS hl
  have hd3 : am_mK.2.2.2.drop (2 + 1) = _ :: _ := (am_cur_of (i := (5, 3, .ifCond .ne 13, (4, 0, 0), 0)) (by decide +kernel))
  have hj : am_mK.2.2.2.drop (2 + 1) = j :: r := hj
  rw [hd3] at hj
  cases hj
  show W p l e (am_rm am_mK) s m _ below meth c H locs 0 0 _ (F0 m 5 L [.int 0])
  refine lv_if_ne (tgt := 18) hx hb (by decide +kernel : decode am_mK.1.2.2 5 = .ok (.ifCond .ne 13, 3)) rfl (fun h9 => absurd rfl h9) (fun _ => ?_)
  obtain ⟨z1, z2, ⟨sa, z3⟩, -, -, z4⟩ := hTL s hT
  refine vx_throwS hx hb hl0 (names := am_IXn) (text := "no such blower") (sa := sa) (cls := am_IX) (ik := 139) (is := 141) (ic := 143) (A := fun q => B ≤ q) hown (by decide +kernel) (by decide +kernel) (hts _ (am_w_ok (i := 1265) (by decide +kernel))) (hts _ (am_w_ok (i := 139) (by decide +kernel))) z3 (fun w hw => (am_okW_ok am_atS_ok hw).elim (hts w) (fun q => am_dc_use q.2 (z4 w q.1))) (fun w hw => List.all_eq_true.mp am_atS_ot w hw) z1 z2 hS (hl.1.trans hml.symm)
    (by decide +kernel : decode am_mK.1.2.2 8 = .ok (.new 139, 3)) (by decide +kernel : decode am_mK.1.2.2 11 = .ok (.dup, 1)) (by decide +kernel : decode am_mK.1.2.2 12 = .ok (.ldc 141, 2)) (by decide +kernel : decode am_mK.1.2.2 14 = .ok (.invokespecial 143, 3)) (by decide +kernel : decode am_mK.1.2.2 17 = .ok (.athrow, 1)) (fun z hz => (htab z hz).elim) (by decide) (by decide) (by decide) (by decide) hlk ?_ hS.2.2 (by decide) (by decide)
  intro t hal hsz hkeep
  refine ⟨h, trivial, ⟨⟨rfl, rfl⟩, am_Rel_kept (am_Rel.moved hal hR) hkeep⟩, Nat.le_trans hS.1 hsz, fun q h1 h2 => ?_⟩
  rw [hkeep q (Nat.lt_of_lt_of_le h1 hS.1)]
  exact hS.2.1 q h1 h2
theorem ag_KB (hl0 : l.stackTraces = false) (hTm : am_TXm B TX) (hTN : am_TN TX) (hTx : am_TxOK l B x am_txt TX) (hTL : ∀ U, TX U → am_TL B U) {h h1 : am_H} {a b : Int32} (h2 : ag_L2 a b h h1) : ag_KM l D B x TX a b h (fun _ _ => False) (fun E g => E = ag_NS ∧ g = h1) := by
  obtain ⟨⟨n, hrun⟩, ⟨n2, pl, e2, e11, e5, hrun2⟩, hbb⟩ := h2
  refine ag_Kof hTm hTN hTx (fun p e s m below meth c C hT hB htab go step => ?_)
  refine go (n := 0) [(0, .ref 0), (1, .int a), (2, .int b)] [.ref 0] h (am_nxt_of (i := (0, 1, .aload_n 0, (0, 0, 0), 0)) (by decide +kernel)) (fun _ => rfl) ?_
  refine go (n := 0) [(0, .ref 0), (1, .int a), (2, .int b)] [.int a, .ref 0] h (am_nxt_of (i := (1, 1, .iload_n 1, (0, 0, 0), 0)) (by decide +kernel)) (fun _ => rfl) ?_
  refine go (n := n) [(0, .ref 0), (1, .int a), (2, .int b)] [.int 1] h (am_nxt_of (i := (2, 3, .invokevirtual 135, (70, 943, 3), 0)) (by decide +kernel)) (ag_o_callV (M' := am_m70) (o := 0) (ar := [.int a]) (rest := []) (r := some (.int 1)) rfl rfl rfl rfl ac_o0 rfl rfl hrun) ?_
  refine step (n := 0) (f' := (am_mK.2.2.2.drop 4, [(0, .ref 0), (1, .int a), (2, .int b)], [], am_ks0, h, 0, 0)) (fun j hj => ag_okK none (fun _ _ _ => none) j (List.mem_of_mem_drop hj)) rfl ?_
  refine go (n := 0) [(0, .ref 0), (1, .int a), (2, .int b)] [.ref 0] h (am_nxt_of (i := (18, 1, .aload_n 0, (0, 0, 0), 0)) (by decide +kernel)) (fun _ => rfl) ?_
  refine go (n := 0) [(0, .ref 0), (1, .int a), (2, .int b)] [.ref 148] h (am_nxt_of (i := (19, 3, .getfield 64, (0, 11, 672), 0)) (by decide +kernel)) (fun cs => ?_) ?_
  · simp only [am_one]
    rw [show am_ks0[0]? = some (.inl 0) from ac_o0]
    simp only [Nat.beq_refl, cond_true, e11]
  refine go (n := 0) [(0, .ref 0), (1, .int a), (2, .int b)] [.ref 0, .ref 148] h (am_nxt_of (i := (22, 1, .aload_n 0, (0, 0, 0), 0)) (by decide +kernel)) (fun _ => rfl) ?_
  refine go (n := 0) [(0, .ref 0), (1, .int a), (2, .int b)] [.ref pl, .ref 148] h (am_nxt_of (i := (23, 3, .getfield 18, (0, 2, 663), 0)) (by decide +kernel)) (fun cs => ?_) ?_
  · simp only [am_one]
    rw [show am_ks0[0]? = some (.inl 0) from ac_o0]
    simp only [Nat.beq_refl, cond_true, e2]
  refine go (n := 0) [(0, .ref 0), (1, .int a), (2, .int b)] [.ref 0, .ref pl, .ref 148] h (am_nxt_of (i := (26, 1, .aload_n 0, (0, 0, 0), 0)) (by decide +kernel)) (fun _ => rfl) ?_
  refine go (n := 0) [(0, .ref 0), (1, .int a), (2, .int b)] [.ref 48, .ref pl, .ref 148] h (am_nxt_of (i := (27, 3, .getfield 37, (0, 5, 666), 0)) (by decide +kernel)) (fun cs => ?_) ?_
  · simp only [am_one]
    rw [show am_ks0[0]? = some (.inl 0) from ac_o0]
    simp only [Nat.beq_refl, cond_true, e5]
  refine go (n := n2) [(0, .ref 0), (1, .int a), (2, .int b)] [] h1 (am_nxt_of (i := (30, 3, .invokevirtual 146, (63, 912, 3), 0)) (by decide +kernel)) (ag_o_callV (M' := am_m63) (o := 148) (ar := [.ref 48, .ref pl]) (rest := []) (r := none) rfl rfl rfl rfl ag_k148 rfl rfl hrun2) ?_
  refine go (n := 0) [(0, .ref 0), (1, .int a), (2, .int b)] [.int b] h1 (am_nxt_of (i := (33, 1, .iload_n 2, (0, 0, 0), 0)) (by decide +kernel)) (fun _ => rfl) ?_
  obtain ⟨hx, hb, hml, hr, hown, hts, hlk, hnm, htn⟩ := C
  intro H locs L j r hj hR hS hl
  have hd3 : am_mK.2.2.2.drop (11 + 1) = _ :: _ := (am_cur_of (i := (34, 34, .tableswitch 88 0 4 #[34, 43, 52, 62, 79], (0, 0, 0), 0)) (by decide +kernel))
  have hj : am_mK.2.2.2.drop (11 + 1) = j :: r := hj
  rw [hd3] at hj
  cases hj
  show W p l e (am_rm am_mK) s m _ below meth c H locs 0 0 _ (F0 m 34 L [.int b])
  refine lv_tableOut (x := b) (tgt := 122) hx hb (by decide +kernel : decode am_mK.1.2.2 34 = .ok (.tableswitch 88 0 4 #[34, 43, 52, 62, 79], 34)) hbb rfl ?_
  obtain ⟨z1, z2, -, ⟨sa, z3⟩, -, z4⟩ := hTL s hT
  refine ag_throwN hx hb hl0 (text := "no such what") (sa := sa) (ik := 164) (is := 166) (A := fun q => B ≤ q) hown (hts _ (am_w_ok (i := 1335) (by decide +kernel))) (hts _ (am_w_ok (i := 140) (by decide +kernel))) z3 (fun w hw => (am_okW_ok ag_atS_ok hw).elim (hts w) (fun q => am_dc_use q.2 (z4 w q.1))) (fun w hw => List.all_eq_true.mp ag_atS_ot w hw) z1 z2 hS (hl.1.trans hml.symm)
    (by decide +kernel : decode am_mK.1.2.2 122 = .ok (.new 164, 3)) (by decide +kernel : decode am_mK.1.2.2 125 = .ok (.dup, 1)) (by decide +kernel : decode am_mK.1.2.2 126 = .ok (.ldc 166, 2)) (by decide +kernel : decode am_mK.1.2.2 128 = .ok (.invokespecial 168, 3)) (by decide +kernel : decode am_mK.1.2.2 131 = .ok (.athrow, 1)) (fun z hz => (htab z hz).elim) (by decide) (by decide) (by decide) (by decide) hlk ?_ hS.2.2 (by decide) (by decide)
  intro t hal hsz hkeep
  refine ⟨h1, trivial, ⟨⟨rfl, rfl⟩, am_Rel_kept (am_Rel.moved hal hR) hkeep⟩, Nat.le_trans hS.1 hsz, fun q h1 h2 => ?_⟩
  rw [hkeep q (Nat.lt_of_lt_of_le h1 hS.1)]
  exact hS.2.1 q h1 h2
end AMLK
/-- the one table of handlers -/
def am_isCw (w : Cond) : Bool := match w with
  | .codeWith y _ _ _ hh => !decide (y = am_mL.1.2.1) || decide (hh = am_hh)
  | _ => true
set_option maxRecDepth 1000000 in
theorem am_cw_tbl : lw_tbl.all am_isCw = true := by decide +kernel
theorem am_cw_one {bs : ByteArray} {n : Nat} {ret : Option FieldType} {hh : List (Nat × Nat × Nat × Nat)} (h : Cond.codeWith am_mL.1.2.1 bs n ret hh ∈ lw_tbl) : hh = am_hh := by
  have := List.all_eq_true.mp am_cw_tbl _ h
  simpa [am_isCw] using this
