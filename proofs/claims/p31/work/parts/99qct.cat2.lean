/-! ===== A THROW THAT THE METHOD'S SECOND ROW TAKES ===== -/
section AGX
variable {p : Program} {l : Launch} {e : Env} {R : Room} {s : State} {m : MethodId} {args : Array Value} {below : List Frame} {meth : Method} {c : Code} {H : Heap} {locs : List Loc} {cells slots : Nat} {Q : State → Prop}
theorem ag_find2 {S : State} {g : JFrame} {q : Addr} {x y : ExceptionTableEntry} {suf : List ExceptionTableEntry} {k k2 : ClassId} {ce : Cell} (hm : S.vm.method? g.method = some meth) (hc : meth.code = some c) (ht : c.exceptionTable.toList = x :: y :: suf) (hx : covers x g.pc = true) (h0 : x.catchType ≠ 0) (hy : covers y g.pc = true) (hy0 : y.catchType ≠ 0)
    (hl : S.vm.ClassLinks e.platform g.method.cls x.catchType k) (hl2 : (S.vm.noted g.method.cls x.catchType (.cls k)).ClassLinks e.platform g.method.cls y.catchType k2) (hce : S.heap[q]? = some ce) (ho : ∀ k, ce.vm ≠ .statics k) (hk1 : ∃ z, S.vm.classes[ce.cls]? = some z) (hk2 : ∃ z, S.vm.classes[k]? = some z) (hk3 : ∃ z, S.vm.classes[k2]? = some z) (hfit : S.vm.assignable ce.cls k = false) (hfit2 : S.vm.assignable ce.cls k2 = true) (P : Handler → Pre) (E : CtlPost) (d : Bool) (acts : List Action) :
    wp (findHandler g q) P E e d acts S ↔ P (.found y.handlerPc) d acts (S.setVm ((S.vm.noted g.method.cls x.catchType (.cls k)).noted g.method.cls y.catchType (.cls k2))) := by
  rw [W.findHandler_eq hm hc, ht]
  have hal : S.vm.Alike (S.vm.noted g.method.cls x.catchType (.cls k)) := (Vm.Alike.refl S.vm).noted _ _ _
  have hal2 : S.vm.Alike ((S.vm.noted g.method.cls x.catchType (.cls k)).noted g.method.cls y.catchType (.cls k2)) := hal.noted _ _ _
  obtain ⟨z1, e1⟩ := hk1
  obtain ⟨z2, e2⟩ := hk2
  obtain ⟨z3, e3⟩ := hk3
  obtain ⟨y1, f1, -⟩ := hal.2.2 _ _ e1
  obtain ⟨y2, f2, -⟩ := hal.2.2 _ _ e2
  obtain ⟨w1, j1, -⟩ := hal2.2.2 _ _ e1
  obtain ⟨w3, j3, -⟩ := hal2.2.2 _ _ e3
  have f3 : (S.vm.noted g.method.cls x.catchType (.cls k)).assignable ce.cls k = false := (hal.assignable _ _).trans hfit
  have j4 : ((S.vm.noted g.method.cls x.catchType (.cls k)).noted g.method.cls y.catchType (.cls k2)).assignable ce.cls k2 = true := (hal2.assignable _ _).trans hfit2
  obtain ⟨r1, r2⟩ := (resolveClass_links e.toSetting hl).op (op := VmOp.resolveClass g.method.cls x.catchType) rfl
  obtain ⟨t1, t2⟩ := (resolveClass_links e.toSetting hl2).op (op := VmOp.resolveClass g.method.cls y.catchType) rfl
  have hx2 := hx
  simp only [covers] at hx2
  have hy2 := hy
  simp only [covers] at hy2
  simp [findHandler.go, hx2, hy2, h0, hy0, r1, r2, t1, t2, hce, ho, f1, f2, f3, j1, j3, j4, VmOp.dirties, VmOp.acts]
  exact Iff.rfl
theorem ag_catch2 {own name name2 E : String} {ce : Cell} {q : Addr} {pc : Nat} {ls : Array Slot} {rest : List Value} {x y : ExceptionTableEntry} {suf : List ExceptionTableEntry} (hown : s.vm.findClass own = some m.cls) (ht : c.exceptionTable.toList = x :: y :: suf) (hx : covers x pc = true) (h0 : x.catchType ≠ 0) (hy : covers y pc = true) (hy0 : y.catchType ≠ 0)
    (hlink : (Cond.classLink own x.catchType name).before args s = true) (hlink2 : (Cond.classLink own y.catchType name2).before args s = true) (hnc : ∀ a b, s.vm.findClass E = some a → s.vm.findClass name = some b → s.vm.assignable a b = false) (hcast : (Cond.castable E name2).before args s = true) (hce : H[q]? = some ce) (hv : ce.vm = .none) (hcl : s.vm.findClass E = some ce.cls)
    (kk : W p l e R s m args below meth c H locs cells slots Q (F0 m y.handlerPc ls [.ref q])) : vx_W p l e R s m args below meth c H locs cells slots Q (F0 m pc ls rest) q := by
  intro T hT X
  have hpl : e.platform.magicAccessors = ({} : Platform).magicAccessors := by rw [X.admits.platform]
  obtain ⟨c3, k2, hc3, hk2, hasg⟩ := Cond.castable_spec hcast
  cases Option.some.inj (hc3.symm.trans hcl)
  obtain ⟨k, hk, hlk⟩ := Cond.classLink_spec hown hlink e.platform hpl
  obtain ⟨k', hk', hlk2⟩ := Cond.classLink_spec hown hlink2 e.platform hpl
  cases Option.some.inj (hk2.symm.trans hk')
  have hnas := hnc _ _ hcl hk
  obtain ⟨dk, _, _, kt, hd, _, _, _, _, hkt, _, hopen⟩ := hlk.here
  obtain ⟨dk2, _, _, kt2, hd2, _, _, _, _, hkt2, _, hopen2⟩ := hlk2.here
  have hal := X.warmed.alike
  obtain ⟨kt', hkt', -⟩ := hal.2.2 _ _ hkt
  obtain ⟨kt2', hkt2', -⟩ := hal.2.2 _ _ hkt2
  have hfit : T.vm.assignable ce.cls k = false := by rw [hal.assignable]; exact hnas
  have hfit2 : T.vm.assignable ce.cls k2 = true := by rw [hal.assignable]; exact hasg
  have hW : s.WarmedH (T.vm.noted m.cls x.catchType (.cls k)) := X.warmed.noted hd hopen (State.rightAt_cls hlk)
  have hW2 : s.WarmedH ((T.vm.noted m.cls x.catchType (.cls k)).noted m.cls y.catchType (.cls k2)) := hW.noted hd2 hopen2 (State.rightAt_cls hlk2)
  obtain ⟨t, a1, b1⟩ := kk (T.setVm ((T.vm.noted m.cls x.catchType (.cls k)).noted m.cls y.catchType (.cls k2))) hT ((X.noted hW).noted hW2)
  refine ⟨t, ?_, b1⟩
  have hh : At T (F0 m pc ls rest).method c below := X.here
  obtain ⟨hgo, hw⟩ := hh.throwing q
  refine Steps.head hgo hw ?_
  rw [stepThread_throwing (frames_entered hh.top _)]
  have hfd := fun P E d acts => ag_find2 (e := e) (S := (T.setTop (F0 m pc ls rest)).pushFrame (.throwing q)) (g := F0 m pc ls rest) (q := q) (k := k) (k2 := k2) (ce := ce) (meth := meth) (c := c) X.method' X.code ht hx h0 hy hy0 (X.warmed.classLinks hlk) (hW.classLinks hlk2) (by show T.heap[q]? = some ce; rw [hT]; exact hce) (by intro k9; rw [hv]; intro h9; cases h9) (Vm.classAt_of_assignable hfit2 ⟨kt2', hkt2'⟩) ⟨kt', hkt'⟩ ⟨kt2', hkt2'⟩ hfit hfit2 P E d acts
  have hst : (stepThrowing e ((T.setTop (F0 m pc ls rest)).pushFrame (.throwing q)) q (.java (F0 m pc ls rest) :: T.frames.tail)).Is ((((T.setTop (F0 m pc ls rest)).pushFrame (.throwing q)).setVm ((T.vm.noted m.cls x.catchType (.cls k)).noted m.cls y.catchType (.cls k2))).setFrames (.java { F0 m pc ls rest with pc := y.handlerPc, stack := [.ref q] } :: T.frames.tail)) [] := by
    simp only [stepThrowing, searchFrame, vmDo]
    generalize hr : Sem.go _ e false [] _ = res
    obtain ⟨as, rfl, ha⟩ := Sem.eq_ok_of hr (a := Handler.found y.handlerPc) (s' := ((T.setTop (F0 m pc ls rest)).pushFrame (.throwing q)).setVm ((T.vm.noted m.cls x.catchType (.cls k)).noted m.cls y.catchType (.cls k2))) (acts' := []) (by simp [hfd]; rfl)
    exact ⟨rfl, ha⟩
  rw [hst.1]
  obtain ⟨g0, hg⟩ := Option.isSome_iff_exists.mp hh.top
  obtain ⟨r, hr⟩ := State.topJava?_eq_some.mp hg
  have hr2 : (T.setVm ((T.vm.noted m.cls x.catchType (.cls k)).noted m.cls y.catchType (.cls k2))).frames = .java g0 :: r := hr
  rw [State.setTop_of_frames _ hr2] at a1
  rw [hr, List.tail_cons, State.pushFrame, State.setTop_of_frames _ hr]
  show Steps p.tables e below (((((T.setVm ((T.vm.noted m.cls x.catchType (.cls k)).noted m.cls y.catchType (.cls k2))).setFrames _).setFrames _).setFrames _)) t
  rw [State.setFrames_setFrames, State.setFrames_setFrames]
  exact a1
end AGX
