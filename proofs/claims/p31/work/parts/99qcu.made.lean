/-! ===== A THROW WHOSE CONSTRUCTOR HAS A LINK OF ITS OWN: NoSuchElementException ===== -/
def ag_NS : String := "java/util/NoSuchElementException"
def ag_RE : String := "java/lang/RuntimeException"
def ag_EX : String := "java/lang/Exception"
def ag_wl : List Cond := [.methodLink "AirBed" 168 (Bundle.initS ag_NS), .instantiable ag_NS 6, .selects ag_NS Bundle.tFill0 Bundle.tFill0, .selects ag_NS Bundle.tFill Bundle.tFill, .lays ag_NS Bundle.tN "cause" "Ljava/lang/Throwable;", .lays ag_NS Bundle.tN "stackTrace" Bundle.steD, .lays ag_NS Bundle.tN "suppressedExceptions" Bundle.listD, .lays ag_NS Bundle.tN "detailMessage" "Ljava/lang/String;",
  .isRef (.static Bundle.tN "UNASSIGNED_STACK" Bundle.steD), .isRef (.static Bundle.tN "SUPPRESSED_SENTINEL" Bundle.listD), .fieldLink Bundle.tN 198 Bundle.tN "backtrace" "Ljava/lang/Object;", .lays Bundle.tN Bundle.tN "backtrace" "Ljava/lang/Object;", .lays ag_NS Bundle.tN "backtrace" "Ljava/lang/Object;"]
def ag_own : List Cond := ag_wl ++ (Bundle.throwableAtoms ++ (Bundle.throwableSAtoms ++ (Bundle.passSAtoms ag_NS ag_RE 13 prog_28_method_4_code ++ Bundle.chainSAtoms ag_RE [ag_EX])))
set_option maxHeartbeats 1000000 in
theorem ag_made {p : Program} {l : Launch} {e : Env} {R : Room} {s : State} {m : MethodId} {args : Array Value} {below : List Frame} {meth : Method} {c : Code} {V : State} {locs : List Loc} {cells slots : Nat} (X : Stand p l e R s m args below meth c V locs cells slots) (hexec : p.tables.exec = Jvm.exec) (htr : e.platform.stackTraces = false)
    (hown : s.vm.findClass "AirBed" = some m.cls) (h : ∀ w ∈ ag_own, w.before args s = true) (hlocs : ∀ x ∈ locs, ∀ cell, s.heap[x.base]? = some cell → cell.vm.isStatics = false)
    {a : Addr} {cX : ClassId} {kX : Class} (hfX : s.vm.findClass ag_NS = some cX) (hkX : s.vm.classes[cX]? = some kX) (hcell : V.heap[a]? = some (freshCell cX kX)) (hnew : s.heap.size ≤ a)
    {msg : Value} (hmsg : msg.isRef = true) {g : JFrame} (hg : g.method = m) (hsize : g.locals.size = c.maxLocals) (hlocked : g.locked = none) (hentered : g.entered = []) {rest : List Value} (hstack : g.stack = msg :: .ref a :: .ref a :: rest)
    (d6 : decode c.code g.pc = .ok (.invokespecial 168, 3)) (d9 : decode c.code (g.pc + 3) = .ok (.athrow, 1)) (hout : ∀ x ∈ c.exceptionTable.toList, covers x (g.pc + 3) = false)
    (hRf : 5 < R.frames) (hRl : 2 * g.monitorRoom + ((Value.ref a :: rest).map fun v => v.category).sum + 81 ≤ R.locals) (hlocks : meth.locks = false) :
    ∃ U : State, Steps p.tables e below (V.setTop g) U ∧ U.status = .running ∧ Ended U below (.threw a) ∧ s.WarmedH U.vm ∧ s.sameButNew ({ U with vm := s.vm } : State) locs cells slots ∧ ∃ ce, U.heap[a]? = some ce ∧ ce.vm = .none ∧ ce.cls = cX := by
  have o1 : e.platform.frameOwnsMonitors = true := by rw [X.admits.platform]
  have o2 : e.platform.finalization = false := by rw [X.admits.platform]
  have o3 : e.platform.magicAccessors = ({} : Platform).magicAccessors := by rw [X.admits.platform]
  have n : ∀ (i : Nat) (w : Cond), ag_wl[i]? = some w → w.holds args s none s [] = true := fun i w hw => h w (List.mem_append_left _ (List.mem_of_getElem? hw))
  obtain ⟨T, Z0, L, -, Y⟩ := ThrowableC.of_atoms (args := args) o1 o2 o3 (fun w hw => h w (List.mem_append_right _ (List.mem_append_left _ hw)))
  obtain ⟨Z, M, LZ, LM, hZ⟩ := Init0T.ofS_atoms (args := args) o3 L Y (fun w hw => h w (List.mem_append_right _ (List.mem_append_right _ (List.mem_append_left _ hw))))
  have hC : ∀ w ∈ Bundle.passSAtoms ag_NS ag_RE 13 prog_28_method_4_code, w.before args s = true := fun w hw => h w (List.mem_append_right _ (List.mem_append_right _ (List.mem_append_right _ (List.mem_append_left _ hw))))
  -- the chain: its own first link, and the others as always
  obtain ⟨Q1, Qs, hlen, kQ1, kQs, nQ1, sQ1, sQs⟩ := Bundle.chainS (args := args) o3 hZ [ag_EX] ag_RE (by decide +kernel) (fun x hx => by rw [List.mem_singleton.mp hx]; decide +kernel) (fun w hw => h w (List.mem_append_right _ (List.mem_append_right _ (List.mem_append_right _ (List.mem_append_right _ hw)))))
  obtain ⟨P0, kP0, nP0, sP0⟩ := PassC.ofS_atoms (args := args) o3 (X := ag_NS) (Y := ag_RE) (index := 13) (bytes := prog_28_method_4_code) (by decide +kernel) (by decide) (by decide +kernel) (by decide +kernel) (by decide +kernel) (by decide +kernel) hC
  have hsup : P0.sup = Q1.m := Option.some.inj (sP0.symm.trans nQ1)
  have hmc : P0.m.cls = cX := Option.some.inj ((findClass_of_methodNamed nP0).symm.trans hfX)
  obtain ⟨c1, k1, hc1, hk1, hord, -, -, -⟩ := Cond.instantiable_spec (n 1 (.instantiable ag_NS 6) rfl)
  cases Option.some.inj (hc1.symm.trans hfX)
  cases Option.some.inj (hkX.symm.trans hk1)
  -- what is called on it
  have v0 : selectMethod e.platform s.vm cX T.fill0 = .method T.fill0 := by
    obtain ⟨c2, r2, m2, q1, q2, q3, q4, -⟩ := Cond.selects_spec (n 2 (.selects ag_NS Bundle.tFill0 Bundle.tFill0) rfl)
    cases Option.some.inj (q1.symm.trans hc1)
    cases Option.some.inj (q2.symm.trans (State.methodFound?_of_named Y.fill0 (by decide)))
    cases Option.some.inj (q3.symm.trans Y.fill0)
    rw [Launch.admits_selectMethod X.admits]
    exact q4
  have v1 : selectMethod e.platform s.vm cX T.fill = .method T.fill := by
    obtain ⟨c2, r2, m2, q1, q2, q3, q4, -⟩ := Cond.selects_spec (n 3 (.selects ag_NS Bundle.tFill Bundle.tFill) rfl)
    cases Option.some.inj (q1.symm.trans hc1)
    cases Option.some.inj (q2.symm.trans (State.methodFound?_of_named Y.fill (by decide)))
    cases Option.some.inj (q3.symm.trans Y.fill)
    rw [Launch.admits_selectMethod X.admits]
    exact q4
  -- the statics
  obtain ⟨S, hS, iS⟩ := Y.statics
  obtain ⟨u0, eu0⟩ := Cond.staticRefV Y.unassigned L.unassignedStatic L.statics hS iS (n 8 (.isRef (.static Bundle.tN "UNASSIGNED_STACK" Bundle.steD)) rfl)
  obtain ⟨u1, eu1⟩ := Cond.staticRefV Y.sentinel L.sentinelStatic L.statics hS iS (n 9 (.isRef (.static Bundle.tN "SUPPRESSED_SENTINEL" Bundle.listD)) rfl)
  obtain ⟨S', hS1, hS2, -, hS3⟩ := X.same.2.2.2.2.2 T.aS S hS
  have hS1 : V.heap[T.aS]? = some S' := hS1
  have hno : ∀ i, (⟨T.aS, i⟩ : Loc) ∉ locs := fun i hm => by
    have := hlocs _ hm S hS
    rw [iS] at this
    cases this
  have hkn : S'.vm ≠ .unknown := by
    rw [hS2]
    intro hu
    rw [show S.vm = .unknown from hu] at iS
    cases iS
  have hne : T.aS ≠ a := Nat.ne_of_lt (Nat.lt_of_lt_of_le (Array.getElem?_eq_some_iff.mp hS).1 hnew)
  -- its fields
  obtain ⟨ci, iB, fB, b1, b2, b3, b4, -, b5, b6, b7⟩ := Cond.ownField (t := .object "java/lang/Object") Y.found L.cls (by decide +kernel) (n 10 (.fieldLink Bundle.tN 198 Bundle.tN "backtrace" "Ljava/lang/Object;") rfl) (n 11 (.lays Bundle.tN Bundle.tN "backtrace" "Ljava/lang/Object;") rfl) e.platform o3
  obtain ⟨iM, hM⟩ := Y.msg
  obtain ⟨tC, eC, hdC, hnC⟩ := Cond.laysAt hc1 hk1 Y.cause (n 4 (.lays ag_NS Bundle.tN "cause" "Ljava/lang/Throwable;") rfl)
  obtain ⟨tS, eS, hdS, hnS⟩ := Cond.laysAt hc1 hk1 Y.stack (n 5 (.lays ag_NS Bundle.tN "stackTrace" Bundle.steD) rfl)
  obtain ⟨tP, eP, hdP, hnP⟩ := Cond.laysAt hc1 hk1 Y.supp (n 6 (.lays ag_NS Bundle.tN "suppressedExceptions" Bundle.listD) rfl)
  obtain ⟨tM, -⟩ := Cond.laysAt hc1 hk1 hM (n 7 (.lays ag_NS Bundle.tN "detailMessage" "Ljava/lang/String;") rfl)
  obtain ⟨tB, eB, hdB, hnB⟩ := Cond.laysAt hc1 hk1 b7 (n 12 (.lays ag_NS Bundle.tN "backtrace" "Ljava/lang/Object;") rfl)
  have p1 := Cond.laysApart hdB hdC hnB hnC (by rw [b5, Y.causeName]; decide)
  have p2 := Cond.laysApart hdB hdS hnB hnS (by rw [b5, Y.stackName]; decide)
  have p3 := Cond.laysApart hdB hdP hnB hnP (by rw [b5, Y.suppName]; decide)
  have hskip : SkipFacts T e.platform s (fun u => u) u0 ((preparedCellV T.toThrowableT (freshCell cX kX) a u0 u1).withEntry V.cur) := by
    refine ⟨{ ci198 := ci, i198 := iB, fBack := fB }, ⟨b1, b2, b3, b4⟩, ?_, fun _ _ => rfl⟩
    have hd := fresh_default (c := cX) tB
    rw [b6] at hd
    simpa [preparedCellV, Cell.setSlot, Cell.withEntry, Array.getElem?_setIfInBounds, p1, p2, p3, p1.symm, p2.symm, p3.symm, defaultValue] using hd
  -- the call
  obtain ⟨tm, -, -, -, vm1, hn1, -, -, -, -, -, -, -, hW1, st1⟩ := Steps.initColdS (tb := p.tables) (e := e) (below := below) (s := s) (U := V) X.here hexec X.warmed o3 hown (t := Bundle.initS ag_NS) rfl rfl (by decide) (n 0 (.methodLink "AirBed" 168 (Bundle.initS ag_NS)) rfl)
    (hC (.instanceMethod (Bundle.initS ag_NS)) (by simp [Bundle.passSAtoms])) (bytes := prog_28_method_4_code) (maxL := 2) (hC (.code (Bundle.initS ag_NS) prog_28_method_4_code 2 none) (by simp [Bundle.passSAtoms])) (f := g) hg (a := a) (msg := msg) (rest := .ref a :: rest) hstack d6
  have etm : tm = P0.m := Option.some.inj (hn1.symm.trans nP0)
  subst etm
  obtain ⟨vm2, X2, st2⟩ := (X.noted hW1).ctorMessageOffV hexec (g := { g with stack := .ref a :: rest }) hg hsize T L Z LZ M LM (P0 :: Q1 :: Qs)
    (fun P hP => by
      rcases List.mem_cons.mp hP with rfl | hP
      · exact kP0
      · rcases List.mem_cons.mp hP with rfl | hP
        · exact kQ1
        · exact kQs P hP) ⟨hsup, sQ1, sQs⟩ (u0 := u0) (sen := u1) (self := a) hmsg (cell := freshCell cX kX) (cellS := S') hcell (fun _ => by simp) (by simp) rfl rfl v0 v1 hS1 hne hkn (by rw [hS3 _ (hno _)]; exact eu0) (by rw [hS3 _ (hno _)]; exact eu1)
    (Takes.of_laid hk1 hord tC (by rw [Y.causeType]; rfl)) (Takes.of_laid hk1 hord tS (by rw [Y.stackType]; exact fits_refV_array _ u0)) (Takes.of_laid hk1 hord tP (by rw [Y.suppType]; exact fits_refV_object _ u1)) (Takes.of_laid hk1 hord tM (by rw [Y.msgType]; exact fits_refV_object _ ⟨msg, hmsg⟩)) Y.objLocals hskip htr [] d6
    (by simp only [List.length_cons, hlen, List.length_nil]; omega) (by simp only [List.length_cons, hlen, List.length_nil]; exact hRl)
  obtain ⟨w1, w2, w3, w4, w5⟩ := X2.athrowLeaves hexec (g := { g with stack := .ref a :: rest, pc := g.pc + 3 }) hg hlocked hentered hout (a := a) (rest := rest) rfl d9 hlocks
  have hlt : a < ((V.setVm vm1).setVm vm2).heap.size := (Array.getElem?_eq_some_iff.mp hcell).1
  refine ⟨_, st1 _ (fun acts => ?_), w2, w3, w4, w5.weaken (fun y hy hy2 => ?_) (Nat.le_refl _) (Nat.le_refl _), _, heapAt_setCell_self (s := (V.setVm vm1).setVm vm2) (plainBareV T.toThrowableT (freshCell cX kX) a u0 u1 msg) hlt, rfl, rfl⟩
  · rw [doInvoke_state]
    exact st2 _ w1
  · rcases List.mem_append.mp hy with hy | hy
    · exact hy
    · exfalso
      have hb : y.base = a := by
        simp only [List.mem_cons, List.not_mem_nil, or_false] at hy
        rcases hy with rfl | rfl | rfl | rfl | rfl <;> rfl
      rw [hb] at hy2
      exact Nat.not_lt.mpr hnew hy2
