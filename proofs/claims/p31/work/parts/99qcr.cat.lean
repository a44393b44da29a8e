/-! ===== A THROW THAT THE METHOD'S FIRST ROW TAKES ===== -/
section AMX
variable {p : Program} {l : Launch} {e : Env} {R : Room} {s : State} {m : MethodId} {args : Array Value} {below : List Frame} {meth : Method} {c : Code} {H : Heap} {locs : List Loc} {cells slots : Nat} {Q : State → Prop}
/-- the search in the method's own table: its first row is the one -/
theorem am_find {S : State} {g : JFrame} {q : Addr} {x : ExceptionTableEntry} {suf : List ExceptionTableEntry} {k : ClassId} {ce : Cell} (hm : S.vm.method? g.method = some meth) (hc : meth.code = some c) (ht : c.exceptionTable.toList = x :: suf) (hx : covers x g.pc = true) (h0 : x.catchType ≠ 0)
    (hl : S.vm.ClassLinks e.platform g.method.cls x.catchType k) (hce : S.heap[q]? = some ce) (ho : ∀ k, ce.vm ≠ .statics k) (hk1 : ∃ z, S.vm.classes[ce.cls]? = some z) (hk2 : ∃ z, S.vm.classes[k]? = some z) (hfit : S.vm.assignable ce.cls k = true) (P : Handler → Pre) (E : CtlPost) (d : Bool) (acts : List Action) :
    wp (findHandler g q) P E e d acts S ↔ P (.found x.handlerPc) d acts (S.setVm (S.vm.noted g.method.cls x.catchType (.cls k))) := by
  rw [W.findHandler_eq hm hc, ht]
  have hal : S.vm.Alike (S.vm.noted g.method.cls x.catchType (.cls k)) := (Vm.Alike.refl S.vm).noted _ _ _
  obtain ⟨z1, e1⟩ := hk1
  obtain ⟨z2, e2⟩ := hk2
  obtain ⟨y1, f1, -⟩ := hal.2.2 _ _ e1
  obtain ⟨y2, f2, -⟩ := hal.2.2 _ _ e2
  have f3 : (S.vm.noted g.method.cls x.catchType (.cls k)).assignable ce.cls k = true := (hal.assignable _ _).trans hfit
  obtain ⟨r1, r2⟩ := (resolveClass_links e.toSetting hl).op (op := VmOp.resolveClass g.method.cls x.catchType) rfl
  have hx2 := hx
  simp only [covers] at hx2
  simp [findHandler.go, hx2, h0, r1, r2, hce, ho, f1, f2, f3, VmOp.dirties, VmOp.acts]
theorem am_catch {own name E : String} {ce : Cell} {q : Addr} {pc : Nat} {ls : Array Slot} {rest : List Value} {x : ExceptionTableEntry} {suf : List ExceptionTableEntry} (hown : s.vm.findClass own = some m.cls) (ht : c.exceptionTable.toList = x :: suf) (hx : covers x pc = true) (h0 : x.catchType ≠ 0)
    (hlink : (Cond.classLink own x.catchType name).before args s = true) (hcast : (Cond.castable E name).before args s = true) (hce : H[q]? = some ce) (hv : ce.vm = .none) (hcl : s.vm.findClass E = some ce.cls)
    (kk : W p l e R s m args below meth c H locs cells slots Q (F0 m x.handlerPc ls [.ref q])) : vx_W p l e R s m args below meth c H locs cells slots Q (F0 m pc ls rest) q := by
  intro T hT X
  have hpl : e.platform.magicAccessors = ({} : Platform).magicAccessors := by rw [X.admits.platform]
  obtain ⟨c3, k, hc3, hk, hasg⟩ := Cond.castable_spec hcast
  cases Option.some.inj (hc3.symm.trans hcl)
  obtain ⟨k', hk', hlk⟩ := Cond.classLink_spec hown hlink e.platform hpl
  cases Option.some.inj (hk.symm.trans hk')
  obtain ⟨dk, _, _, kt, hd, _, _, _, _, hkt, _, hopen⟩ := hlk.here
  have hal := X.warmed.alike
  obtain ⟨kt', hkt', -⟩ := hal.2.2 _ _ hkt
  have hfit : T.vm.assignable ce.cls k = true := by rw [hal.assignable]; exact hasg
  have hW : s.WarmedH (T.vm.noted m.cls x.catchType (.cls k)) := X.warmed.noted hd hopen (State.rightAt_cls hlk)
  obtain ⟨t, a1, b1⟩ := kk (T.setVm (T.vm.noted m.cls x.catchType (.cls k))) hT (X.noted hW)
  refine ⟨t, ?_, b1⟩
  have hh : At T (F0 m pc ls rest).method c below := X.here
  obtain ⟨hgo, hw⟩ := hh.throwing q
  refine Steps.head hgo hw ?_
  rw [stepThread_throwing (frames_entered hh.top _)]
  have hfd := fun P E d acts => am_find (e := e) (S := (T.setTop (F0 m pc ls rest)).pushFrame (.throwing q)) (g := F0 m pc ls rest) (q := q) (k := k) (ce := ce) (meth := meth) (c := c) X.method' X.code ht hx h0 (X.warmed.classLinks hlk) (by show T.heap[q]? = some ce; rw [hT]; exact hce) (by intro k9; rw [hv]; intro h9; cases h9) (Vm.classAt_of_assignable hfit ⟨kt', hkt'⟩) ⟨kt', hkt'⟩ hfit P E d acts
  have hst : (stepThrowing e ((T.setTop (F0 m pc ls rest)).pushFrame (.throwing q)) q (.java (F0 m pc ls rest) :: T.frames.tail)).Is ((((T.setTop (F0 m pc ls rest)).pushFrame (.throwing q)).setVm (T.vm.noted m.cls x.catchType (.cls k))).setFrames (.java { F0 m pc ls rest with pc := x.handlerPc, stack := [.ref q] } :: T.frames.tail)) [] := by
    simp only [stepThrowing, searchFrame, vmDo]
    generalize hr : Sem.go _ e false [] _ = res
    obtain ⟨as, rfl, ha⟩ := Sem.eq_ok_of hr (a := Handler.found x.handlerPc) (s' := ((T.setTop (F0 m pc ls rest)).pushFrame (.throwing q)).setVm (T.vm.noted m.cls x.catchType (.cls k))) (acts' := []) (by simp [hfd]; rfl)
    exact ⟨rfl, ha⟩
  rw [hst.1]
  obtain ⟨g0, hg⟩ := Option.isSome_iff_exists.mp hh.top
  obtain ⟨r, hr⟩ := State.topJava?_eq_some.mp hg
  have hr2 : (T.setVm (T.vm.noted m.cls x.catchType (.cls k))).frames = .java g0 :: r := hr
  rw [State.setTop_of_frames _ hr2] at a1
  rw [hr, List.tail_cons, State.pushFrame, State.setTop_of_frames _ hr]
  show Steps p.tables e below (((((T.setVm (T.vm.noted m.cls x.catchType (.cls k))).setFrames _).setFrames _).setFrames _)) t
  rw [State.setFrames_setFrames, State.setFrames_setFrames]
  exact a1
end AMX
