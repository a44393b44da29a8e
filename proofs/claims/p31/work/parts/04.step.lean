/-! ===== ONE INSTRUCTION OF THE SMALL MACHINE IS ONE OF THE TRUE ONE ===== -/
/-- what the tables and the frame say of a method that runs -/
def am_C (p : Program) (s : State) (m : MethodId) (args : Array Value) (meth : Method) (c : Code) (M : am_M) : Prop :=
  p.tables.exec = Jvm.exec ∧ c.code = M.1.2.2 ∧ c.maxLocals = M.2.1.1 ∧ meth.sig.returnType = M.2.1.2.1 ∧ s.vm.findClass M.1.2.1.cls = some m.cls ∧ (∀ w ∈ am_ts, w.before args s = true) ∧ meth.locks = false ∧ meth.name = M.1.2.1.name ∧ (∀ w ∈ am_tn, w.before args s = true)
def am_Wf (p : Program) (l : Launch) (e : Env) (R : Room) (s : State) (m : MethodId) (args : Array Value) (below : List Frame) (meth : Method) (c : Code) (D : va_G) (cl : List vw_C) (B : Nat) (x : Nat → Nat) (ex : Bool) (nL : Nat) (Q : State → Prop) (f : am_F) : Prop :=
  ∀ (H : Heap) (locs : List Loc) (L : Array Slot) (j : am_I) (r : List am_I), f.1 = j :: r → am_Rel D cl B x ex f.2.2.2.1 f.2.2.2.2.1 (s.heap.size + f.2.2.2.2.2.1) s H → va_S (fun q => B ≤ q) s.heap H locs → lv_has L nL (am_ls B x f.2.1) →
    W p l e R s m args below meth c H locs f.2.2.2.2.2.1 f.2.2.2.2.2.2 Q (F0 m j.1 L (f.2.2.1.map (am_c B x)))
section AMS
variable {p : Program} {l : Launch} {e : Env} {R : Room} {s : State} {m : MethodId} {args : Array Value} {below : List Frame} {meth : Method} {c : Code} {D : va_G} {cl : List vw_C} {B : Nat} {x : Nat → Nat} {ex : Bool} {nL : Nat} {Q : State → Prop} {M : am_M} {f' : am_F}
variable {pc len : Nat} {ins : Instr} {an : Nat × Nat × Nat} {v0 : Int} {cs : List am_I} {ls : am_L} {st : List Value} {ks : List am_k} {h : am_H} {nc ns : Nat} {G : am_G} {rc : am_rec}
/-- goes on behind an instruction -/
theorem am_go_use {i : am_I} (hgo : am_go i cs ls st ks h nc ns = some (.inl f')) (hW : am_Wf p l e R s m args below meth c D cl B x ex nL Q f') : ∀ (H : Heap) (locs : List Loc) (L : Array Slot), am_Rel D cl B x ex ks h (s.heap.size + nc) s H → va_S (fun q => B ≤ q) s.heap H locs → lv_has L nL (am_ls B x ls) →
    W p l e R s m args below meth c H locs nc ns Q (F0 m (i.1 + i.2.1) L (st.map (am_c B x))) := by
  unfold am_go am_nx at hgo
  split at hgo
  · cases hgo
  · rename_i j r
    cases hb : Nat.beq j.1 (i.1 + i.2.1) with
    | false => rw [hb] at hgo; cases hgo
    | true =>
      rw [hb] at hgo
      cases hgo
      intro H locs L hR hS hl
      have := hW H locs L j r rfl hR hS hl
      rw [Nat.eq_of_beq_eq_true hb] at this
      exact this
theorem am_go_inl {i : am_I} {o : am_O} (hgo : am_go i cs ls st ks h nc ns = some (.inr o)) : False := by
  unfold am_go am_nx at hgo
  split at hgo
  · cases hgo
  · rename_i j r
    cases hb : Nat.beq j.1 (i.1 + i.2.1) with
    | false => rw [hb] at hgo; cases hgo
    | true => rw [hb] at hgo; cases hgo
theorem am_jp_use {a : Nat} {t : Int} (hgo : am_jp M a t ls st ks h nc ns = some (.inl f')) (hW : am_Wf p l e R s m args below meth c D cl B x ex nL Q f') : ∃ tgt : Nat, t = (tgt : Int) ∧ ∀ (H : Heap) (locs : List Loc) (L : Array Slot), am_Rel D cl B x ex ks h (s.heap.size + nc) s H → va_S (fun q => B ≤ q) s.heap H locs → lv_has L nL (am_ls B x ls) →
    W p l e R s m args below meth c H locs nc ns Q (F0 m tgt L (st.map (am_c B x))) := by
  unfold am_jp at hgo
  split at hgo
  · cases hgo
  · rename_i j r _
    split at hgo
    · rename_i hj
      cases hgo
      exact ⟨j.1, hj.symm, fun H locs L hR hS hl => hW H locs L j r rfl hR hS hl⟩
    · cases hgo
theorem am_seek_use {t : Int} : ∀ {cd : List am_I} {j : am_I} {r : List am_I}, am_seek cd t = j :: r → (j.1 : Int) = t
  | [], _, _, h => by cases h
  | i :: cd, j, r, h => by
    unfold am_seek at h
    split at h
    · rename_i hi
      cases h
      exact hi
    · exact am_seek_use h
theorem am_sw_use {t : Int} (hgo : am_sw M t ls st ks h nc ns = some (.inl f')) (hW : am_Wf p l e R s m args below meth c D cl B x ex nL Q f') : ∃ tgt : Nat, t = (tgt : Int) ∧ ∀ (H : Heap) (locs : List Loc) (L : Array Slot), am_Rel D cl B x ex ks h (s.heap.size + nc) s H → va_S (fun q => B ≤ q) s.heap H locs → lv_has L nL (am_ls B x ls) →
    W p l e R s m args below meth c H locs nc ns Q (F0 m tgt L (st.map (am_c B x))) := by
  unfold am_sw at hgo
  split at hgo
  · cases hgo
  · rename_i j r hsk
    cases hgo
    exact ⟨j.1, (am_seek_use hsk).symm, fun H locs L hR hS hl => hW H locs L j r rfl hR hS hl⟩
abbrev am_φ : Value → (Value → am_R) → am_R := fun v k => k v
theorem am_s_iadd (C : am_C p s m args meth c M) (hd : decode M.1.2.2 pc = .ok (.iadd, 1))
    (hone : am_one am_φ ex G rc M ((pc, 1, .iadd, an, v0) :: cs, ls, st, ks, h, nc, ns) = some (.inl f')) (hW : am_Wf p l e R s m args below meth c D cl B x ex M.2.1.1 Q f') : am_Wf p l e R s m args below meth c D cl B x ex M.2.1.1 Q ((pc, 1, .iadd, an, v0) :: cs, ls, st, ks, h, nc, ns) := by
  obtain ⟨hx, hb, hml, hr, hown, hts, hlk, hnm, htn⟩ := C
  simp only [am_one] at hone
  split at hone
  · rename_i b a st0
    intro H locs L j r hj hR hS hl
    cases hj
    show W p l e R s m args below meth c H locs nc ns Q (F0 m pc L (.int b :: .int a :: st0.map (am_c B x)))
    exact lv_iadd hx hb hd (am_go_use hone hW H locs L hR hS hl)
  · cases hone
theorem am_s_isub (C : am_C p s m args meth c M) (hd : decode M.1.2.2 pc = .ok (.isub, 1))
    (hone : am_one am_φ ex G rc M ((pc, 1, .isub, an, v0) :: cs, ls, st, ks, h, nc, ns) = some (.inl f')) (hW : am_Wf p l e R s m args below meth c D cl B x ex M.2.1.1 Q f') : am_Wf p l e R s m args below meth c D cl B x ex M.2.1.1 Q ((pc, 1, .isub, an, v0) :: cs, ls, st, ks, h, nc, ns) := by
  obtain ⟨hx, hb, hml, hr, hown, hts, hlk, hnm, htn⟩ := C
  simp only [am_one] at hone
  split at hone
  · rename_i b a st0
    intro H locs L j r hj hR hS hl
    cases hj
    show W p l e R s m args below meth c H locs nc ns Q (F0 m pc L (.int b :: .int a :: st0.map (am_c B x)))
    exact lv_isub hx hb hd (am_go_use hone hW H locs L hR hS hl)
  · cases hone
theorem am_s_imul (C : am_C p s m args meth c M) (hd : decode M.1.2.2 pc = .ok (.imul, 1))
    (hone : am_one am_φ ex G rc M ((pc, 1, .imul, an, v0) :: cs, ls, st, ks, h, nc, ns) = some (.inl f')) (hW : am_Wf p l e R s m args below meth c D cl B x ex M.2.1.1 Q f') : am_Wf p l e R s m args below meth c D cl B x ex M.2.1.1 Q ((pc, 1, .imul, an, v0) :: cs, ls, st, ks, h, nc, ns) := by
  obtain ⟨hx, hb, hml, hr, hown, hts, hlk, hnm, htn⟩ := C
  simp only [am_one] at hone
  split at hone
  · rename_i b a st0
    intro H locs L j r hj hR hS hl
    cases hj
    show W p l e R s m args below meth c H locs nc ns Q (F0 m pc L (.int b :: .int a :: st0.map (am_c B x)))
    exact lv_imul hx hb hd (am_go_use hone hW H locs L hR hS hl)
  · cases hone
theorem am_s_iand (C : am_C p s m args meth c M) (hd : decode M.1.2.2 pc = .ok (.iand, 1))
    (hone : am_one am_φ ex G rc M ((pc, 1, .iand, an, v0) :: cs, ls, st, ks, h, nc, ns) = some (.inl f')) (hW : am_Wf p l e R s m args below meth c D cl B x ex M.2.1.1 Q f') : am_Wf p l e R s m args below meth c D cl B x ex M.2.1.1 Q ((pc, 1, .iand, an, v0) :: cs, ls, st, ks, h, nc, ns) := by
  obtain ⟨hx, hb, hml, hr, hown, hts, hlk, hnm, htn⟩ := C
  simp only [am_one] at hone
  split at hone
  · rename_i b a st0
    intro H locs L j r hj hR hS hl
    cases hj
    show W p l e R s m args below meth c H locs nc ns Q (F0 m pc L (.int b :: .int a :: st0.map (am_c B x)))
    exact lv_iand hx hb hd (am_go_use hone hW H locs L hR hS hl)
  · cases hone
theorem am_s_ior (C : am_C p s m args meth c M) (hd : decode M.1.2.2 pc = .ok (.ior, 1))
    (hone : am_one am_φ ex G rc M ((pc, 1, .ior, an, v0) :: cs, ls, st, ks, h, nc, ns) = some (.inl f')) (hW : am_Wf p l e R s m args below meth c D cl B x ex M.2.1.1 Q f') : am_Wf p l e R s m args below meth c D cl B x ex M.2.1.1 Q ((pc, 1, .ior, an, v0) :: cs, ls, st, ks, h, nc, ns) := by
  obtain ⟨hx, hb, hml, hr, hown, hts, hlk, hnm, htn⟩ := C
  simp only [am_one] at hone
  split at hone
  · rename_i b a st0
    intro H locs L j r hj hR hS hl
    cases hj
    show W p l e R s m args below meth c H locs nc ns Q (F0 m pc L (.int b :: .int a :: st0.map (am_c B x)))
    exact lv_ior hx hb hd (am_go_use hone hW H locs L hR hS hl)
  · cases hone
theorem am_s_ishl (C : am_C p s m args meth c M) (hd : decode M.1.2.2 pc = .ok (.ishl, 1))
    (hone : am_one am_φ ex G rc M ((pc, 1, .ishl, an, v0) :: cs, ls, st, ks, h, nc, ns) = some (.inl f')) (hW : am_Wf p l e R s m args below meth c D cl B x ex M.2.1.1 Q f') : am_Wf p l e R s m args below meth c D cl B x ex M.2.1.1 Q ((pc, 1, .ishl, an, v0) :: cs, ls, st, ks, h, nc, ns) := by
  obtain ⟨hx, hb, hml, hr, hown, hts, hlk, hnm, htn⟩ := C
  simp only [am_one] at hone
  split at hone
  · rename_i b a st0
    intro H locs L j r hj hR hS hl
    cases hj
    show W p l e R s m args below meth c H locs nc ns Q (F0 m pc L (.int b :: .int a :: st0.map (am_c B x)))
    exact lv_ishl hx hb hd (am_go_use hone hW H locs L hR hS hl)
  · cases hone
theorem am_s_ishr (C : am_C p s m args meth c M) (hd : decode M.1.2.2 pc = .ok (.ishr, 1))
    (hone : am_one am_φ ex G rc M ((pc, 1, .ishr, an, v0) :: cs, ls, st, ks, h, nc, ns) = some (.inl f')) (hW : am_Wf p l e R s m args below meth c D cl B x ex M.2.1.1 Q f') : am_Wf p l e R s m args below meth c D cl B x ex M.2.1.1 Q ((pc, 1, .ishr, an, v0) :: cs, ls, st, ks, h, nc, ns) := by
  obtain ⟨hx, hb, hml, hr, hown, hts, hlk, hnm, htn⟩ := C
  simp only [am_one] at hone
  split at hone
  · rename_i b a st0
    intro H locs L j r hj hR hS hl
    cases hj
    show W p l e R s m args below meth c H locs nc ns Q (F0 m pc L (.int b :: .int a :: st0.map (am_c B x)))
    exact lv_ishr hx hb hd (am_go_use hone hW H locs L hR hS hl)
  · cases hone
theorem am_s_ladd (C : am_C p s m args meth c M) (hd : decode M.1.2.2 pc = .ok (.ladd, 1))
    (hone : am_one am_φ ex G rc M ((pc, 1, .ladd, an, v0) :: cs, ls, st, ks, h, nc, ns) = some (.inl f')) (hW : am_Wf p l e R s m args below meth c D cl B x ex M.2.1.1 Q f') : am_Wf p l e R s m args below meth c D cl B x ex M.2.1.1 Q ((pc, 1, .ladd, an, v0) :: cs, ls, st, ks, h, nc, ns) := by
  obtain ⟨hx, hb, hml, hr, hown, hts, hlk, hnm, htn⟩ := C
  simp only [am_one] at hone
  split at hone
  · rename_i b a st0
    intro H locs L j r hj hR hS hl
    cases hj
    show W p l e R s m args below meth c H locs nc ns Q (F0 m pc L (.long b :: .long a :: st0.map (am_c B x)))
    exact lv_ladd hx hb hd (am_go_use hone hW H locs L hR hS hl)
  · cases hone
theorem am_s_lsub (C : am_C p s m args meth c M) (hd : decode M.1.2.2 pc = .ok (.lsub, 1))
    (hone : am_one am_φ ex G rc M ((pc, 1, .lsub, an, v0) :: cs, ls, st, ks, h, nc, ns) = some (.inl f')) (hW : am_Wf p l e R s m args below meth c D cl B x ex M.2.1.1 Q f') : am_Wf p l e R s m args below meth c D cl B x ex M.2.1.1 Q ((pc, 1, .lsub, an, v0) :: cs, ls, st, ks, h, nc, ns) := by
  obtain ⟨hx, hb, hml, hr, hown, hts, hlk, hnm, htn⟩ := C
  simp only [am_one] at hone
  split at hone
  · rename_i b a st0
    intro H locs L j r hj hR hS hl
    cases hj
    show W p l e R s m args below meth c H locs nc ns Q (F0 m pc L (.long b :: .long a :: st0.map (am_c B x)))
    exact lv_lsub hx hb hd (am_go_use hone hW H locs L hR hS hl)
  · cases hone
theorem am_s_lmul (C : am_C p s m args meth c M) (hd : decode M.1.2.2 pc = .ok (.lmul, 1))
    (hone : am_one am_φ ex G rc M ((pc, 1, .lmul, an, v0) :: cs, ls, st, ks, h, nc, ns) = some (.inl f')) (hW : am_Wf p l e R s m args below meth c D cl B x ex M.2.1.1 Q f') : am_Wf p l e R s m args below meth c D cl B x ex M.2.1.1 Q ((pc, 1, .lmul, an, v0) :: cs, ls, st, ks, h, nc, ns) := by
  obtain ⟨hx, hb, hml, hr, hown, hts, hlk, hnm, htn⟩ := C
  simp only [am_one] at hone
  split at hone
  · rename_i b a st0
    intro H locs L j r hj hR hS hl
    cases hj
    show W p l e R s m args below meth c H locs nc ns Q (F0 m pc L (.long b :: .long a :: st0.map (am_c B x)))
    exact lv_lmul hx hb hd (am_go_use hone hW H locs L hR hS hl)
  · cases hone
theorem am_s_land (C : am_C p s m args meth c M) (hd : decode M.1.2.2 pc = .ok (.land, 1))
    (hone : am_one am_φ ex G rc M ((pc, 1, .land, an, v0) :: cs, ls, st, ks, h, nc, ns) = some (.inl f')) (hW : am_Wf p l e R s m args below meth c D cl B x ex M.2.1.1 Q f') : am_Wf p l e R s m args below meth c D cl B x ex M.2.1.1 Q ((pc, 1, .land, an, v0) :: cs, ls, st, ks, h, nc, ns) := by
  obtain ⟨hx, hb, hml, hr, hown, hts, hlk, hnm, htn⟩ := C
  simp only [am_one] at hone
  split at hone
  · rename_i b a st0
    intro H locs L j r hj hR hS hl
    cases hj
    show W p l e R s m args below meth c H locs nc ns Q (F0 m pc L (.long b :: .long a :: st0.map (am_c B x)))
    exact lv_land hx hb hd (am_go_use hone hW H locs L hR hS hl)
  · cases hone
theorem am_s_iushr (C : am_C p s m args meth c M) (hd : decode M.1.2.2 pc = .ok (.iushr, 1))
    (hone : am_one am_φ ex G rc M ((pc, 1, .iushr, an, v0) :: cs, ls, st, ks, h, nc, ns) = some (.inl f')) (hW : am_Wf p l e R s m args below meth c D cl B x ex M.2.1.1 Q f') : am_Wf p l e R s m args below meth c D cl B x ex M.2.1.1 Q ((pc, 1, .iushr, an, v0) :: cs, ls, st, ks, h, nc, ns) := by
  obtain ⟨hx, hb, hml, hr, hown, hts, hlk, hnm, htn⟩ := C
  simp only [am_one] at hone
  split at hone
  · rename_i b a st0
    intro H locs L j r hj hR hS hl
    cases hj
    show W p l e R s m args below meth c H locs nc ns Q (F0 m pc L (.int b :: .int a :: st0.map (am_c B x)))
    exact lv_iushr hx hb hd rfl (am_go_use hone hW H locs L hR hS hl)
  · cases hone
theorem am_s_lcmp (C : am_C p s m args meth c M) (hd : decode M.1.2.2 pc = .ok (.lcmp, 1))
    (hone : am_one am_φ ex G rc M ((pc, 1, .lcmp, an, v0) :: cs, ls, st, ks, h, nc, ns) = some (.inl f')) (hW : am_Wf p l e R s m args below meth c D cl B x ex M.2.1.1 Q f') : am_Wf p l e R s m args below meth c D cl B x ex M.2.1.1 Q ((pc, 1, .lcmp, an, v0) :: cs, ls, st, ks, h, nc, ns) := by
  obtain ⟨hx, hb, hml, hr, hown, hts, hlk, hnm, htn⟩ := C
  simp only [am_one] at hone
  split at hone
  · rename_i b a st0
    intro H locs L j r hj hR hS hl
    cases hj
    show W p l e R s m args below meth c H locs nc ns Q (F0 m pc L (.long b :: .long a :: st0.map (am_c B x)))
    exact W.lcmp hx hb hd (am_go_use hone hW H locs L hR hS hl)
  · cases hone
theorem am_s_idiv (C : am_C p s m args meth c M) (hd : decode M.1.2.2 pc = .ok (.idiv, 1))
    (hone : am_one am_φ ex G rc M ((pc, 1, .idiv, an, v0) :: cs, ls, st, ks, h, nc, ns) = some (.inl f')) (hW : am_Wf p l e R s m args below meth c D cl B x ex M.2.1.1 Q f') : am_Wf p l e R s m args below meth c D cl B x ex M.2.1.1 Q ((pc, 1, .idiv, an, v0) :: cs, ls, st, ks, h, nc, ns) := by
  obtain ⟨hx, hb, hml, hr, hown, hts, hlk, hnm, htn⟩ := C
  simp only [am_one] at hone
  split at hone
  · rename_i b a st0
    split at hone
    · cases hone
    rename_i hne
    intro H locs L j r hj hR hS hl
    cases hj
    show W p l e R s m args below meth c H locs nc ns Q (F0 m pc L (.int b :: .int a :: st0.map (am_c B x)))
    exact lv_idiv hx hb hd hne (am_go_use hone hW H locs L hR hS hl)
  · cases hone
theorem am_s_irem (C : am_C p s m args meth c M) (hd : decode M.1.2.2 pc = .ok (.irem, 1))
    (hone : am_one am_φ ex G rc M ((pc, 1, .irem, an, v0) :: cs, ls, st, ks, h, nc, ns) = some (.inl f')) (hW : am_Wf p l e R s m args below meth c D cl B x ex M.2.1.1 Q f') : am_Wf p l e R s m args below meth c D cl B x ex M.2.1.1 Q ((pc, 1, .irem, an, v0) :: cs, ls, st, ks, h, nc, ns) := by
  obtain ⟨hx, hb, hml, hr, hown, hts, hlk, hnm, htn⟩ := C
  simp only [am_one] at hone
  split at hone
  · rename_i b a st0
    split at hone
    · cases hone
    rename_i hne
    intro H locs L j r hj hR hS hl
    cases hj
    show W p l e R s m args below meth c H locs nc ns Q (F0 m pc L (.int b :: .int a :: st0.map (am_c B x)))
    exact lv_irem hx hb hd hne (am_go_use hone hW H locs L hR hS hl)
  · cases hone
theorem am_s_ldiv (C : am_C p s m args meth c M) (hd : decode M.1.2.2 pc = .ok (.ldiv, 1))
    (hone : am_one am_φ ex G rc M ((pc, 1, .ldiv, an, v0) :: cs, ls, st, ks, h, nc, ns) = some (.inl f')) (hW : am_Wf p l e R s m args below meth c D cl B x ex M.2.1.1 Q f') : am_Wf p l e R s m args below meth c D cl B x ex M.2.1.1 Q ((pc, 1, .ldiv, an, v0) :: cs, ls, st, ks, h, nc, ns) := by
  obtain ⟨hx, hb, hml, hr, hown, hts, hlk, hnm, htn⟩ := C
  simp only [am_one] at hone
  split at hone
  · rename_i b a st0
    split at hone
    · cases hone
    rename_i hne
    intro H locs L j r hj hR hS hl
    cases hj
    show W p l e R s m args below meth c H locs nc ns Q (F0 m pc L (.long b :: .long a :: st0.map (am_c B x)))
    exact lv_ldiv hx hb hd hne (am_go_use hone hW H locs L hR hS hl)
  · cases hone
theorem am_s_lrem (C : am_C p s m args meth c M) (hd : decode M.1.2.2 pc = .ok (.lrem, 1))
    (hone : am_one am_φ ex G rc M ((pc, 1, .lrem, an, v0) :: cs, ls, st, ks, h, nc, ns) = some (.inl f')) (hW : am_Wf p l e R s m args below meth c D cl B x ex M.2.1.1 Q f') : am_Wf p l e R s m args below meth c D cl B x ex M.2.1.1 Q ((pc, 1, .lrem, an, v0) :: cs, ls, st, ks, h, nc, ns) := by
  obtain ⟨hx, hb, hml, hr, hown, hts, hlk, hnm, htn⟩ := C
  simp only [am_one] at hone
  split at hone
  · rename_i b a st0
    split at hone
    · cases hone
    rename_i hne
    intro H locs L j r hj hR hS hl
    cases hj
    show W p l e R s m args below meth c H locs nc ns Q (F0 m pc L (.long b :: .long a :: st0.map (am_c B x)))
    exact lv_lrem hx hb hd hne (am_go_use hone hW H locs L hR hS hl)
  · cases hone
theorem am_s_lneg (C : am_C p s m args meth c M) (hd : decode M.1.2.2 pc = .ok (.lneg, 1))
    (hone : am_one am_φ ex G rc M ((pc, 1, .lneg, an, v0) :: cs, ls, st, ks, h, nc, ns) = some (.inl f')) (hW : am_Wf p l e R s m args below meth c D cl B x ex M.2.1.1 Q f') : am_Wf p l e R s m args below meth c D cl B x ex M.2.1.1 Q ((pc, 1, .lneg, an, v0) :: cs, ls, st, ks, h, nc, ns) := by
  obtain ⟨hx, hb, hml, hr, hown, hts, hlk, hnm, htn⟩ := C
  simp only [am_one] at hone
  split at hone
  · rename_i a st0
    intro H locs L j r hj hR hS hl
    cases hj
    show W p l e R s m args below meth c H locs nc ns Q (F0 m pc L (.long a :: st0.map (am_c B x)))
    exact lv_lneg hx hb hd (am_go_use hone hW H locs L hR hS hl)
  · cases hone
theorem am_s_i2l (C : am_C p s m args meth c M) (hd : decode M.1.2.2 pc = .ok (.i2l, 1))
    (hone : am_one am_φ ex G rc M ((pc, 1, .i2l, an, v0) :: cs, ls, st, ks, h, nc, ns) = some (.inl f')) (hW : am_Wf p l e R s m args below meth c D cl B x ex M.2.1.1 Q f') : am_Wf p l e R s m args below meth c D cl B x ex M.2.1.1 Q ((pc, 1, .i2l, an, v0) :: cs, ls, st, ks, h, nc, ns) := by
  obtain ⟨hx, hb, hml, hr, hown, hts, hlk, hnm, htn⟩ := C
  simp only [am_one] at hone
  split at hone
  · rename_i a st0
    intro H locs L j r hj hR hS hl
    cases hj
    show W p l e R s m args below meth c H locs nc ns Q (F0 m pc L (.int a :: st0.map (am_c B x)))
    exact lv_i2l hx hb hd rfl (am_go_use hone hW H locs L hR hS hl)
  · cases hone
theorem am_s_l2i (C : am_C p s m args meth c M) (hd : decode M.1.2.2 pc = .ok (.l2i, 1))
    (hone : am_one am_φ ex G rc M ((pc, 1, .l2i, an, v0) :: cs, ls, st, ks, h, nc, ns) = some (.inl f')) (hW : am_Wf p l e R s m args below meth c D cl B x ex M.2.1.1 Q f') : am_Wf p l e R s m args below meth c D cl B x ex M.2.1.1 Q ((pc, 1, .l2i, an, v0) :: cs, ls, st, ks, h, nc, ns) := by
  obtain ⟨hx, hb, hml, hr, hown, hts, hlk, hnm, htn⟩ := C
  simp only [am_one] at hone
  split at hone
  · rename_i a st0
    intro H locs L j r hj hR hS hl
    cases hj
    show W p l e R s m args below meth c H locs nc ns Q (F0 m pc L (.long a :: st0.map (am_c B x)))
    exact lv_l2i hx hb hd rfl (am_go_use hone hW H locs L hR hS hl)
  · cases hone
theorem am_s_iconst {k : Int} (C : am_C p s m args meth c M) (hd : decode M.1.2.2 pc = .ok (.iconst k, 1))
    (hone : am_one am_φ ex G rc M ((pc, 1, .iconst k, an, v0) :: cs, ls, st, ks, h, nc, ns) = some (.inl f')) (hW : am_Wf p l e R s m args below meth c D cl B x ex M.2.1.1 Q f') : am_Wf p l e R s m args below meth c D cl B x ex M.2.1.1 Q ((pc, 1, .iconst k, an, v0) :: cs, ls, st, ks, h, nc, ns) := by
  obtain ⟨hx, hb, hml, hr, hown, hts, hlk, hnm, htn⟩ := C
  simp only [am_one] at hone
  intro H locs L j r hj hR hS hl
  cases hj
  show W p l e R s m args below meth c H locs nc ns Q (F0 m pc L (st.map (am_c B x)))
  exact lv_iconst hx hb hd rfl (am_go_use hone hW H locs L hR hS hl)
theorem am_s_bipush {k : Int} (C : am_C p s m args meth c M) (hd : decode M.1.2.2 pc = .ok (.bipush k, 2))
    (hone : am_one am_φ ex G rc M ((pc, 2, .bipush k, an, v0) :: cs, ls, st, ks, h, nc, ns) = some (.inl f')) (hW : am_Wf p l e R s m args below meth c D cl B x ex M.2.1.1 Q f') : am_Wf p l e R s m args below meth c D cl B x ex M.2.1.1 Q ((pc, 2, .bipush k, an, v0) :: cs, ls, st, ks, h, nc, ns) := by
  obtain ⟨hx, hb, hml, hr, hown, hts, hlk, hnm, htn⟩ := C
  simp only [am_one] at hone
  intro H locs L j r hj hR hS hl
  cases hj
  show W p l e R s m args below meth c H locs nc ns Q (F0 m pc L (st.map (am_c B x)))
  exact lv_bipush hx hb hd rfl (am_go_use hone hW H locs L hR hS hl)
theorem am_s_sipush {k : Int} (C : am_C p s m args meth c M) (hd : decode M.1.2.2 pc = .ok (.sipush k, 3))
    (hone : am_one am_φ ex G rc M ((pc, 3, .sipush k, an, v0) :: cs, ls, st, ks, h, nc, ns) = some (.inl f')) (hW : am_Wf p l e R s m args below meth c D cl B x ex M.2.1.1 Q f') : am_Wf p l e R s m args below meth c D cl B x ex M.2.1.1 Q ((pc, 3, .sipush k, an, v0) :: cs, ls, st, ks, h, nc, ns) := by
  obtain ⟨hx, hb, hml, hr, hown, hts, hlk, hnm, htn⟩ := C
  simp only [am_one] at hone
  intro H locs L j r hj hR hS hl
  cases hj
  show W p l e R s m args below meth c H locs nc ns Q (F0 m pc L (st.map (am_c B x)))
  exact lv_sipush hx hb hd rfl (am_go_use hone hW H locs L hR hS hl)
theorem am_s_lconst {k : Fin 2} (C : am_C p s m args meth c M) (hd : decode M.1.2.2 pc = .ok (.lconst k, 1))
    (hone : am_one am_φ ex G rc M ((pc, 1, .lconst k, an, v0) :: cs, ls, st, ks, h, nc, ns) = some (.inl f')) (hW : am_Wf p l e R s m args below meth c D cl B x ex M.2.1.1 Q f') : am_Wf p l e R s m args below meth c D cl B x ex M.2.1.1 Q ((pc, 1, .lconst k, an, v0) :: cs, ls, st, ks, h, nc, ns) := by
  obtain ⟨hx, hb, hml, hr, hown, hts, hlk, hnm, htn⟩ := C
  simp only [am_one] at hone
  intro H locs L j r hj hR hS hl
  cases hj
  show W p l e R s m args below meth c H locs nc ns Q (F0 m pc L (st.map (am_c B x)))
  exact lv_lconst hx hb hd rfl (am_go_use hone hW H locs L hR hS hl)
theorem am_s_ldc {k : Nat} (C : am_C p s m args meth c M) (hd : decode M.1.2.2 pc = .ok (.ldc k, 2)) (h0 : an.2.1 = 0) (hw : Cond.constant M.1.2.1.cls k (Int32.ofInt v0) ∈ am_ts)
    (hone : am_one am_φ ex G rc M ((pc, 2, .ldc k, an, v0) :: cs, ls, st, ks, h, nc, ns) = some (.inl f')) (hW : am_Wf p l e R s m args below meth c D cl B x ex M.2.1.1 Q f') : am_Wf p l e R s m args below meth c D cl B x ex M.2.1.1 Q ((pc, 2, .ldc k, an, v0) :: cs, ls, st, ks, h, nc, ns) := by
  obtain ⟨hx, hb, hml, hr, hown, hts, hlk, hnm, htn⟩ := C
  simp only [am_one] at hone
  rw [h0] at hone
  intro H locs L j r hj hR hS hl
  cases hj
  show W p l e R s m args below meth c H locs nc ns Q (F0 m pc L (st.map (am_c B x)))
  exact lv_ldc hx hb hown (hts _ hw) hd (am_go_use hone hW H locs L hR hS hl)
theorem am_s_ldc2 {k : Nat} (C : am_C p s m args meth c M) (hd : decode M.1.2.2 pc = .ok (.ldc2_w k, 3)) (hw : Cond.constantLong M.1.2.1.cls k (Int64.ofInt v0) ∈ am_ts)
    (hone : am_one am_φ ex G rc M ((pc, 3, .ldc2_w k, an, v0) :: cs, ls, st, ks, h, nc, ns) = some (.inl f')) (hW : am_Wf p l e R s m args below meth c D cl B x ex M.2.1.1 Q f') : am_Wf p l e R s m args below meth c D cl B x ex M.2.1.1 Q ((pc, 3, .ldc2_w k, an, v0) :: cs, ls, st, ks, h, nc, ns) := by
  obtain ⟨hx, hb, hml, hr, hown, hts, hlk, hnm, htn⟩ := C
  simp only [am_one] at hone
  intro H locs L j r hj hR hS hl
  cases hj
  show W p l e R s m args below meth c H locs nc ns Q (F0 m pc L (st.map (am_c B x)))
  exact lv_ldc2 hx hb hown (hts _ hw) hd (am_go_use hone hW H locs L hR hS hl)
theorem am_s_iload {k : Nat} (C : am_C p s m args meth c M) (hd : decode M.1.2.2 pc = .ok (.iload k, 2))
    (hone : am_one am_φ ex G rc M ((pc, 2, .iload k, an, v0) :: cs, ls, st, ks, h, nc, ns) = some (.inl f')) (hW : am_Wf p l e R s m args below meth c D cl B x ex M.2.1.1 Q f') : am_Wf p l e R s m args below meth c D cl B x ex M.2.1.1 Q ((pc, 2, .iload k, an, v0) :: cs, ls, st, ks, h, nc, ns) := by
  obtain ⟨hx, hb, hml, hr, hown, hts, hlk, hnm, htn⟩ := C
  simp only [am_one] at hone
  split at hone
  · rename_i a hg
    intro H locs L j r hj hR hS hl
    cases hj
    show W p l e R s m args below meth c H locs nc ns Q (F0 m pc L (st.map (am_c B x)))
    exact lv_iload (x := a) hx hb hd (am_ls_get hl hg) (am_go_use hone hW H locs L hR hS hl)
  · cases hone
theorem am_s_iload_n {k : Fin 4} (C : am_C p s m args meth c M) (hd : decode M.1.2.2 pc = .ok (.iload_n k, 1))
    (hone : am_one am_φ ex G rc M ((pc, 1, .iload_n k, an, v0) :: cs, ls, st, ks, h, nc, ns) = some (.inl f')) (hW : am_Wf p l e R s m args below meth c D cl B x ex M.2.1.1 Q f') : am_Wf p l e R s m args below meth c D cl B x ex M.2.1.1 Q ((pc, 1, .iload_n k, an, v0) :: cs, ls, st, ks, h, nc, ns) := by
  obtain ⟨hx, hb, hml, hr, hown, hts, hlk, hnm, htn⟩ := C
  simp only [am_one] at hone
  split at hone
  · rename_i a hg
    intro H locs L j r hj hR hS hl
    cases hj
    show W p l e R s m args below meth c H locs nc ns Q (F0 m pc L (st.map (am_c B x)))
    exact lv_iload_n (x := a) hx hb hd rfl (am_ls_get hl hg) (am_go_use hone hW H locs L hR hS hl)
  · cases hone
theorem am_s_lload {k : Nat} (C : am_C p s m args meth c M) (hd : decode M.1.2.2 pc = .ok (.lload k, 2))
    (hone : am_one am_φ ex G rc M ((pc, 2, .lload k, an, v0) :: cs, ls, st, ks, h, nc, ns) = some (.inl f')) (hW : am_Wf p l e R s m args below meth c D cl B x ex M.2.1.1 Q f') : am_Wf p l e R s m args below meth c D cl B x ex M.2.1.1 Q ((pc, 2, .lload k, an, v0) :: cs, ls, st, ks, h, nc, ns) := by
  obtain ⟨hx, hb, hml, hr, hown, hts, hlk, hnm, htn⟩ := C
  simp only [am_one] at hone
  split at hone
  · rename_i a hg
    intro H locs L j r hj hR hS hl
    cases hj
    show W p l e R s m args below meth c H locs nc ns Q (F0 m pc L (st.map (am_c B x)))
    exact lv_lload (x := a) hx hb hd (am_ls_get hl hg) (am_go_use hone hW H locs L hR hS hl)
  · cases hone
theorem am_s_lload_n {k : Fin 4} (C : am_C p s m args meth c M) (hd : decode M.1.2.2 pc = .ok (.lload_n k, 1))
    (hone : am_one am_φ ex G rc M ((pc, 1, .lload_n k, an, v0) :: cs, ls, st, ks, h, nc, ns) = some (.inl f')) (hW : am_Wf p l e R s m args below meth c D cl B x ex M.2.1.1 Q f') : am_Wf p l e R s m args below meth c D cl B x ex M.2.1.1 Q ((pc, 1, .lload_n k, an, v0) :: cs, ls, st, ks, h, nc, ns) := by
  obtain ⟨hx, hb, hml, hr, hown, hts, hlk, hnm, htn⟩ := C
  simp only [am_one] at hone
  split at hone
  · rename_i a hg
    intro H locs L j r hj hR hS hl
    cases hj
    show W p l e R s m args below meth c H locs nc ns Q (F0 m pc L (st.map (am_c B x)))
    exact lv_lload_n (x := a) hx hb hd rfl (am_ls_get hl hg) (am_go_use hone hW H locs L hR hS hl)
  · cases hone
theorem am_s_aload {k : Nat} (C : am_C p s m args meth c M) (hd : decode M.1.2.2 pc = .ok (.aload k, 2))
    (hone : am_one am_φ ex G rc M ((pc, 2, .aload k, an, v0) :: cs, ls, st, ks, h, nc, ns) = some (.inl f')) (hW : am_Wf p l e R s m args below meth c D cl B x ex M.2.1.1 Q f') : am_Wf p l e R s m args below meth c D cl B x ex M.2.1.1 Q ((pc, 2, .aload k, an, v0) :: cs, ls, st, ks, h, nc, ns) := by
  obtain ⟨hx, hb, hml, hr, hown, hts, hlk, hnm, htn⟩ := C
  simp only [am_one] at hone
  split at hone
  · rename_i a hg
    intro H locs L j r hj hR hS hl
    cases hj
    show W p l e R s m args below meth c H locs nc ns Q (F0 m pc L (st.map (am_c B x)))
    exact lv_aload (x := B + a) hx hb hd (am_ls_get hl hg) (am_go_use hone hW H locs L hR hS hl)
  · rename_i a hg
    intro H locs L j r hj hR hS hl
    cases hj
    show W p l e R s m args below meth c H locs nc ns Q (F0 m pc L (st.map (am_c B x)))
    exact lv_aload (x := x a) hx hb hd (am_ls_get hl hg) (am_go_use hone hW H locs L hR hS hl)
  · cases hone
theorem am_s_aload_n {k : Fin 4} (C : am_C p s m args meth c M) (hd : decode M.1.2.2 pc = .ok (.aload_n k, 1))
    (hone : am_one am_φ ex G rc M ((pc, 1, .aload_n k, an, v0) :: cs, ls, st, ks, h, nc, ns) = some (.inl f')) (hW : am_Wf p l e R s m args below meth c D cl B x ex M.2.1.1 Q f') : am_Wf p l e R s m args below meth c D cl B x ex M.2.1.1 Q ((pc, 1, .aload_n k, an, v0) :: cs, ls, st, ks, h, nc, ns) := by
  obtain ⟨hx, hb, hml, hr, hown, hts, hlk, hnm, htn⟩ := C
  simp only [am_one] at hone
  split at hone
  · rename_i a hg
    intro H locs L j r hj hR hS hl
    cases hj
    show W p l e R s m args below meth c H locs nc ns Q (F0 m pc L (st.map (am_c B x)))
    exact lv_aload_n (x := B + a) hx hb hd rfl (am_ls_get hl hg) (am_go_use hone hW H locs L hR hS hl)
  · rename_i a hg
    intro H locs L j r hj hR hS hl
    cases hj
    show W p l e R s m args below meth c H locs nc ns Q (F0 m pc L (st.map (am_c B x)))
    exact lv_aload_n (x := x a) hx hb hd rfl (am_ls_get hl hg) (am_go_use hone hW H locs L hR hS hl)
  · cases hone
theorem am_s_istore {k : Nat} (C : am_C p s m args meth c M) (hd : decode M.1.2.2 pc = .ok (.istore k, 2))
    (hone : am_one am_φ ex G rc M ((pc, 2, .istore k, an, v0) :: cs, ls, st, ks, h, nc, ns) = some (.inl f')) (hW : am_Wf p l e R s m args below meth c D cl B x ex M.2.1.1 Q f') : am_Wf p l e R s m args below meth c D cl B x ex M.2.1.1 Q ((pc, 2, .istore k, an, v0) :: cs, ls, st, ks, h, nc, ns) := by
  obtain ⟨hx, hb, hml, hr, hown, hts, hlk, hnm, htn⟩ := C
  simp only [am_one] at hone
  split at hone
  · rename_i a st0
    cases hlt : Nat.blt k M.2.1.1 with
    | false => rw [hlt] at hone; cases hone
    | true =>
    rw [hlt] at hone
    simp only [cond_true, am_pushI, am_pushL] at hone
    intro H locs L j r hj hR hS hl
    cases hj
    show W p l e R s m args below meth c H locs nc ns Q (F0 m pc L (.int a :: st0.map (am_c B x)))
    exact lv_istore hx hb hd hl (Nat.le_of_ble_eq_true hlt) (am_ls_set (v := .int a)) (fun L hl => am_go_use hone hW H locs L hR hS hl)
  · cases hone
theorem am_s_istore_n {k : Fin 4} (C : am_C p s m args meth c M) (hd : decode M.1.2.2 pc = .ok (.istore_n k, 1))
    (hone : am_one am_φ ex G rc M ((pc, 1, .istore_n k, an, v0) :: cs, ls, st, ks, h, nc, ns) = some (.inl f')) (hW : am_Wf p l e R s m args below meth c D cl B x ex M.2.1.1 Q f') : am_Wf p l e R s m args below meth c D cl B x ex M.2.1.1 Q ((pc, 1, .istore_n k, an, v0) :: cs, ls, st, ks, h, nc, ns) := by
  obtain ⟨hx, hb, hml, hr, hown, hts, hlk, hnm, htn⟩ := C
  simp only [am_one] at hone
  split at hone
  · rename_i a st0
    cases hlt : Nat.blt k.val M.2.1.1 with
    | false => rw [hlt] at hone; cases hone
    | true =>
    rw [hlt] at hone
    simp only [cond_true, am_pushI, am_pushL] at hone
    intro H locs L j r hj hR hS hl
    cases hj
    show W p l e R s m args below meth c H locs nc ns Q (F0 m pc L (.int a :: st0.map (am_c B x)))
    exact lv_istore_n hx hb hd rfl hl (Nat.le_of_ble_eq_true hlt) (am_ls_set (v := .int a)) (fun L hl => am_go_use hone hW H locs L hR hS hl)
  · cases hone
theorem am_s_lstore {k : Nat} (C : am_C p s m args meth c M) (hd : decode M.1.2.2 pc = .ok (.lstore k, 2))
    (hone : am_one am_φ ex G rc M ((pc, 2, .lstore k, an, v0) :: cs, ls, st, ks, h, nc, ns) = some (.inl f')) (hW : am_Wf p l e R s m args below meth c D cl B x ex M.2.1.1 Q f') : am_Wf p l e R s m args below meth c D cl B x ex M.2.1.1 Q ((pc, 2, .lstore k, an, v0) :: cs, ls, st, ks, h, nc, ns) := by
  obtain ⟨hx, hb, hml, hr, hown, hts, hlk, hnm, htn⟩ := C
  simp only [am_one] at hone
  split at hone
  · rename_i a st0
    cases hlt : Nat.blt (k + 1) M.2.1.1 with
    | false => rw [hlt] at hone; cases hone
    | true =>
    rw [hlt] at hone
    simp only [cond_true, am_pushI, am_pushL] at hone
    intro H locs L j r hj hR hS hl
    cases hj
    show W p l e R s m args below meth c H locs nc ns Q (F0 m pc L (.long a :: st0.map (am_c B x)))
    exact lv_lstore hx hb hd hl (Nat.le_of_ble_eq_true hlt) (am_ls_set2 (v := .long a)) (fun L hl => am_go_use hone hW H locs L hR hS hl)
  · cases hone
theorem am_s_lstore_n {k : Fin 4} (C : am_C p s m args meth c M) (hd : decode M.1.2.2 pc = .ok (.lstore_n k, 1))
    (hone : am_one am_φ ex G rc M ((pc, 1, .lstore_n k, an, v0) :: cs, ls, st, ks, h, nc, ns) = some (.inl f')) (hW : am_Wf p l e R s m args below meth c D cl B x ex M.2.1.1 Q f') : am_Wf p l e R s m args below meth c D cl B x ex M.2.1.1 Q ((pc, 1, .lstore_n k, an, v0) :: cs, ls, st, ks, h, nc, ns) := by
  obtain ⟨hx, hb, hml, hr, hown, hts, hlk, hnm, htn⟩ := C
  simp only [am_one] at hone
  split at hone
  · rename_i a st0
    cases hlt : Nat.blt (k.val + 1) M.2.1.1 with
    | false => rw [hlt] at hone; cases hone
    | true =>
    rw [hlt] at hone
    simp only [cond_true, am_pushI, am_pushL] at hone
    intro H locs L j r hj hR hS hl
    cases hj
    show W p l e R s m args below meth c H locs nc ns Q (F0 m pc L (.long a :: st0.map (am_c B x)))
    exact lv_lstore_n hx hb hd rfl hl (Nat.le_of_ble_eq_true hlt) (am_ls_set2 (v := .long a)) (fun L hl => am_go_use hone hW H locs L hR hS hl)
  · cases hone
theorem am_s_astore {k : Nat} (C : am_C p s m args meth c M) (hd : decode M.1.2.2 pc = .ok (.astore k, 2))
    (hone : am_one am_φ ex G rc M ((pc, 2, .astore k, an, v0) :: cs, ls, st, ks, h, nc, ns) = some (.inl f')) (hW : am_Wf p l e R s m args below meth c D cl B x ex M.2.1.1 Q f') : am_Wf p l e R s m args below meth c D cl B x ex M.2.1.1 Q ((pc, 2, .astore k, an, v0) :: cs, ls, st, ks, h, nc, ns) := by
  obtain ⟨hx, hb, hml, hr, hown, hts, hlk, hnm, htn⟩ := C
  simp only [am_one] at hone
  split at hone
  · rename_i a st0
    cases hlt : Nat.blt k M.2.1.1 with
    | false => rw [hlt] at hone; cases hone
    | true =>
    rw [hlt] at hone
    simp only [cond_true, am_pushI, am_pushL] at hone
    intro H locs L j r hj hR hS hl
    cases hj
    show W p l e R s m args below meth c H locs nc ns Q (F0 m pc L (.ref (B + a) :: st0.map (am_c B x)))
    exact lv_astore hx hb hd hl (Nat.le_of_ble_eq_true hlt) (am_ls_set (v := .ref a)) (fun L hl => am_go_use hone hW H locs L hR hS hl)
  · cases hone
theorem am_s_astore_n {k : Fin 4} (C : am_C p s m args meth c M) (hd : decode M.1.2.2 pc = .ok (.astore_n k, 1))
    (hone : am_one am_φ ex G rc M ((pc, 1, .astore_n k, an, v0) :: cs, ls, st, ks, h, nc, ns) = some (.inl f')) (hW : am_Wf p l e R s m args below meth c D cl B x ex M.2.1.1 Q f') : am_Wf p l e R s m args below meth c D cl B x ex M.2.1.1 Q ((pc, 1, .astore_n k, an, v0) :: cs, ls, st, ks, h, nc, ns) := by
  obtain ⟨hx, hb, hml, hr, hown, hts, hlk, hnm, htn⟩ := C
  simp only [am_one] at hone
  split at hone
  · rename_i a st0
    cases hlt : Nat.blt k.val M.2.1.1 with
    | false => rw [hlt] at hone; cases hone
    | true =>
    rw [hlt] at hone
    simp only [cond_true, am_pushI, am_pushL] at hone
    intro H locs L j r hj hR hS hl
    cases hj
    show W p l e R s m args below meth c H locs nc ns Q (F0 m pc L (.ref (B + a) :: st0.map (am_c B x)))
    exact lv_astore_n hx hb hd rfl hl (Nat.le_of_ble_eq_true hlt) (am_ls_set (v := .ref a)) (fun L hl => am_go_use hone hW H locs L hR hS hl)
  · cases hone
theorem am_s_iinc {k : Nat} {n : Int} (C : am_C p s m args meth c M) (hd : decode M.1.2.2 pc = .ok (.iinc k n, 3))
    (hone : am_one am_φ ex G rc M ((pc, 3, .iinc k n, an, v0) :: cs, ls, st, ks, h, nc, ns) = some (.inl f')) (hW : am_Wf p l e R s m args below meth c D cl B x ex M.2.1.1 Q f') : am_Wf p l e R s m args below meth c D cl B x ex M.2.1.1 Q ((pc, 3, .iinc k n, an, v0) :: cs, ls, st, ks, h, nc, ns) := by
  obtain ⟨hx, hb, hml, hr, hown, hts, hlk, hnm, htn⟩ := C
  simp only [am_one] at hone
  split at hone
  · rename_i a hg
    cases hlt : Nat.blt k M.2.1.1 with
    | false => rw [hlt] at hone; cases hone
    | true =>
    rw [hlt] at hone
    simp only [cond_true, am_pushI, am_pushL] at hone
    intro H locs L j r hj hR hS hl
    cases hj
    show W p l e R s m args below meth c H locs nc ns Q (F0 m pc L (st.map (am_c B x)))
    obtain ⟨q, hq⟩ := List.getElem?_of_mem (List.mem_map.mpr ⟨(k, .int a), am_get_mem hg, rfl⟩ : (k, am_c B x (.int a)) ∈ am_ls B x ls)
    exact lv_iinc hx hb hd hl hq rfl (Nat.le_of_ble_eq_true hlt) (am_ls_set (v := .int (a + Int32.ofInt n))) (fun L hl => am_go_use hone hW H locs L hR hS hl)
  · cases hone
theorem am_s_dup (C : am_C p s m args meth c M) (hd : decode M.1.2.2 pc = .ok (.dup, 1))
    (hone : am_one am_φ ex G rc M ((pc, 1, .dup, an, v0) :: cs, ls, st, ks, h, nc, ns) = some (.inl f')) (hW : am_Wf p l e R s m args below meth c D cl B x ex M.2.1.1 Q f') : am_Wf p l e R s m args below meth c D cl B x ex M.2.1.1 Q ((pc, 1, .dup, an, v0) :: cs, ls, st, ks, h, nc, ns) := by
  obtain ⟨hx, hb, hml, hr, hown, hts, hlk, hnm, htn⟩ := C
  simp only [am_one] at hone
  split at hone
  · rename_i a st0
    cases hlt : Nat.beq a.category 1 with
    | false => rw [hlt] at hone; cases hone
    | true =>
    rw [hlt] at hone
    simp only [cond_true, am_pushI, am_pushL] at hone
    intro H locs L j r hj hR hS hl
    cases hj
    show W p l e R s m args below meth c H locs nc ns Q (F0 m pc L (am_c B x a :: st0.map (am_c B x)))
    exact lv_dup hx hb hd (by rw [am_c_cat]; exact Nat.eq_of_beq_eq_true hlt) (am_go_use hone hW H locs L hR hS hl)
  · cases hone
theorem am_s_pop (C : am_C p s m args meth c M) (hd : decode M.1.2.2 pc = .ok (.pop, 1))
    (hone : am_one am_φ ex G rc M ((pc, 1, .pop, an, v0) :: cs, ls, st, ks, h, nc, ns) = some (.inl f')) (hW : am_Wf p l e R s m args below meth c D cl B x ex M.2.1.1 Q f') : am_Wf p l e R s m args below meth c D cl B x ex M.2.1.1 Q ((pc, 1, .pop, an, v0) :: cs, ls, st, ks, h, nc, ns) := by
  obtain ⟨hx, hb, hml, hr, hown, hts, hlk, hnm, htn⟩ := C
  simp only [am_one] at hone
  split at hone
  · rename_i a st0
    cases hlt : Nat.beq a.category 1 with
    | false => rw [hlt] at hone; cases hone
    | true =>
    rw [hlt] at hone
    simp only [cond_true, am_pushI, am_pushL] at hone
    intro H locs L j r hj hR hS hl
    cases hj
    show W p l e R s m args below meth c H locs nc ns Q (F0 m pc L (am_c B x a :: st0.map (am_c B x)))
    exact lv_pop hx hb hd (by rw [am_c_cat]; exact Nat.eq_of_beq_eq_true hlt) (am_go_use hone hW H locs L hR hS hl)
  · cases hone
theorem am_s_pop2 (C : am_C p s m args meth c M) (hd : decode M.1.2.2 pc = .ok (.pop2, 1))
    (hone : am_one am_φ ex G rc M ((pc, 1, .pop2, an, v0) :: cs, ls, st, ks, h, nc, ns) = some (.inl f')) (hW : am_Wf p l e R s m args below meth c D cl B x ex M.2.1.1 Q f') : am_Wf p l e R s m args below meth c D cl B x ex M.2.1.1 Q ((pc, 1, .pop2, an, v0) :: cs, ls, st, ks, h, nc, ns) := by
  obtain ⟨hx, hb, hml, hr, hown, hts, hlk, hnm, htn⟩ := C
  simp only [am_one] at hone
  split at hone
  · rename_i a st0
    cases hlt : Nat.beq a.category 2 with
    | false => rw [hlt] at hone; cases hone
    | true =>
    rw [hlt] at hone
    simp only [cond_true, am_pushI, am_pushL] at hone
    intro H locs L j r hj hR hS hl
    cases hj
    show W p l e R s m args below meth c H locs nc ns Q (F0 m pc L (am_c B x a :: st0.map (am_c B x)))
    exact lv_pop2_2 hx hb hd (by rw [am_c_cat]; exact Nat.eq_of_beq_eq_true hlt) (am_go_use hone hW H locs L hR hS hl)
  · cases hone
theorem am_s_dup2 (C : am_C p s m args meth c M) (hd : decode M.1.2.2 pc = .ok (.dup2, 1))
    (hone : am_one am_φ ex G rc M ((pc, 1, .dup2, an, v0) :: cs, ls, st, ks, h, nc, ns) = some (.inl f')) (hW : am_Wf p l e R s m args below meth c D cl B x ex M.2.1.1 Q f') : am_Wf p l e R s m args below meth c D cl B x ex M.2.1.1 Q ((pc, 1, .dup2, an, v0) :: cs, ls, st, ks, h, nc, ns) := by
  obtain ⟨hx, hb, hml, hr, hown, hts, hlk, hnm, htn⟩ := C
  simp only [am_one] at hone
  split at hone
  · rename_i a b st0
    cases hlt : (Nat.beq a.category 1 && Nat.beq b.category 1) with
    | false => rw [hlt] at hone; cases hone
    | true =>
    rw [hlt] at hone
    simp only [cond_true, am_pushI, am_pushL] at hone
    simp only [Bool.and_eq_true] at hlt
    intro H locs L j r hj hR hS hl
    cases hj
    show W p l e R s m args below meth c H locs nc ns Q (F0 m pc L (am_c B x a :: am_c B x b :: st0.map (am_c B x)))
    exact lv_dup2_11 hx hb hd (by rw [am_c_cat]; exact Nat.eq_of_beq_eq_true hlt.1) (by rw [am_c_cat]; exact Nat.eq_of_beq_eq_true hlt.2) (am_go_use hone hW H locs L hR hS hl)
  · cases hone
theorem am_s_goto {off : Int} (C : am_C p s m args meth c M) (hd : decode M.1.2.2 pc = .ok (.goto off, 3))
    (hone : am_one am_φ ex G rc M ((pc, 3, .goto off, an, v0) :: cs, ls, st, ks, h, nc, ns) = some (.inl f')) (hW : am_Wf p l e R s m args below meth c D cl B x ex M.2.1.1 Q f') : am_Wf p l e R s m args below meth c D cl B x ex M.2.1.1 Q ((pc, 3, .goto off, an, v0) :: cs, ls, st, ks, h, nc, ns) := by
  obtain ⟨hx, hb, hml, hr, hown, hts, hlk, hnm, htn⟩ := C
  simp only [am_one] at hone
  obtain ⟨tgt, ht, K⟩ := am_jp_use hone hW
  intro H locs L j r hj hR hS hl
  cases hj
  exact lv_goto hx hb hd ht (K H locs L hR hS hl)
theorem am_s_if_eq {off : Int} (C : am_C p s m args meth c M) (hd : decode M.1.2.2 pc = .ok (.ifCond .eq off, 3)) (hof : 0 ≤ (pc : Int) + off)
    (hone : am_one am_φ ex G rc M ((pc, 3, .ifCond .eq off, an, v0) :: cs, ls, st, ks, h, nc, ns) = some (.inl f')) (hW : am_Wf p l e R s m args below meth c D cl B x ex M.2.1.1 Q f') : am_Wf p l e R s m args below meth c D cl B x ex M.2.1.1 Q ((pc, 3, .ifCond .eq off, an, v0) :: cs, ls, st, ks, h, nc, ns) := by
  obtain ⟨hx, hb, hml, hr, hown, hts, hlk, hnm, htn⟩ := C
  simp only [am_one] at hone
  split at hone
  · rename_i a st0
    simp only [am_br, am_cmp] at hone
    obtain ⟨tg, htg⟩ : ∃ tg : Nat, (pc : Int) + off = (tg : Int) := ⟨((pc : Int) + off).toNat, (Int.toNat_of_nonneg hof).symm⟩
    intro H locs L j r hj hR hS hl
    cases hj
    show W p l e R s m args below meth c H locs nc ns Q (F0 m pc L (.int a :: st0.map (am_c B x)))
    by_cases hc : a = 0
    · rw [decide_eq_true hc] at hone
      obtain ⟨tgt, ht, K⟩ := am_jp_use hone hW
      exact lv_if_eq hx hb hd ht (fun _ => K H locs L hR hS hl) (fun hz => absurd hc hz)
    · rw [decide_eq_false hc] at hone
      exact lv_if_eq hx hb hd htg (fun hz => absurd hz hc) (fun _ => (am_go_use hone hW H locs L hR hS hl))
  · cases hone
theorem am_s_icmp_eq {off : Int} (C : am_C p s m args meth c M) (hd : decode M.1.2.2 pc = .ok (.if_icmp .eq off, 3)) (hof : 0 ≤ (pc : Int) + off)
    (hone : am_one am_φ ex G rc M ((pc, 3, .if_icmp .eq off, an, v0) :: cs, ls, st, ks, h, nc, ns) = some (.inl f')) (hW : am_Wf p l e R s m args below meth c D cl B x ex M.2.1.1 Q f') : am_Wf p l e R s m args below meth c D cl B x ex M.2.1.1 Q ((pc, 3, .if_icmp .eq off, an, v0) :: cs, ls, st, ks, h, nc, ns) := by
  obtain ⟨hx, hb, hml, hr, hown, hts, hlk, hnm, htn⟩ := C
  simp only [am_one] at hone
  split at hone
  · rename_i b a st0
    simp only [am_br, am_cmp] at hone
    obtain ⟨tg, htg⟩ : ∃ tg : Nat, (pc : Int) + off = (tg : Int) := ⟨((pc : Int) + off).toNat, (Int.toNat_of_nonneg hof).symm⟩
    intro H locs L j r hj hR hS hl
    cases hj
    show W p l e R s m args below meth c H locs nc ns Q (F0 m pc L (.int b :: .int a :: st0.map (am_c B x)))
    by_cases hc : a = b
    · rw [decide_eq_true hc] at hone
      obtain ⟨tgt, ht, K⟩ := am_jp_use hone hW
      exact lv_icmp_eq hx hb hd ht (fun _ => K H locs L hR hS hl) (fun hz => absurd hc hz)
    · rw [decide_eq_false hc] at hone
      exact lv_icmp_eq hx hb hd htg (fun hz => absurd hz hc) (fun _ => (am_go_use hone hW H locs L hR hS hl))
  · cases hone
theorem am_s_if_ne {off : Int} (C : am_C p s m args meth c M) (hd : decode M.1.2.2 pc = .ok (.ifCond .ne off, 3)) (hof : 0 ≤ (pc : Int) + off)
    (hone : am_one am_φ ex G rc M ((pc, 3, .ifCond .ne off, an, v0) :: cs, ls, st, ks, h, nc, ns) = some (.inl f')) (hW : am_Wf p l e R s m args below meth c D cl B x ex M.2.1.1 Q f') : am_Wf p l e R s m args below meth c D cl B x ex M.2.1.1 Q ((pc, 3, .ifCond .ne off, an, v0) :: cs, ls, st, ks, h, nc, ns) := by
  obtain ⟨hx, hb, hml, hr, hown, hts, hlk, hnm, htn⟩ := C
  simp only [am_one] at hone
  split at hone
  · rename_i a st0
    simp only [am_br, am_cmp] at hone
    obtain ⟨tg, htg⟩ : ∃ tg : Nat, (pc : Int) + off = (tg : Int) := ⟨((pc : Int) + off).toNat, (Int.toNat_of_nonneg hof).symm⟩
    intro H locs L j r hj hR hS hl
    cases hj
    show W p l e R s m args below meth c H locs nc ns Q (F0 m pc L (.int a :: st0.map (am_c B x)))
    by_cases hc : ¬ a = 0
    · rw [decide_eq_true hc] at hone
      obtain ⟨tgt, ht, K⟩ := am_jp_use hone hW
      exact lv_if_ne hx hb hd ht (fun _ => K H locs L hR hS hl) (fun hz => absurd hz hc)
    · have hc2 := Classical.not_not.mp hc
      rw [decide_eq_false hc] at hone
      exact lv_if_ne hx hb hd htg (fun hz => absurd hz hc) (fun _ => (am_go_use hone hW H locs L hR hS hl))
  · cases hone
theorem am_s_icmp_ne {off : Int} (C : am_C p s m args meth c M) (hd : decode M.1.2.2 pc = .ok (.if_icmp .ne off, 3)) (hof : 0 ≤ (pc : Int) + off)
    (hone : am_one am_φ ex G rc M ((pc, 3, .if_icmp .ne off, an, v0) :: cs, ls, st, ks, h, nc, ns) = some (.inl f')) (hW : am_Wf p l e R s m args below meth c D cl B x ex M.2.1.1 Q f') : am_Wf p l e R s m args below meth c D cl B x ex M.2.1.1 Q ((pc, 3, .if_icmp .ne off, an, v0) :: cs, ls, st, ks, h, nc, ns) := by
  obtain ⟨hx, hb, hml, hr, hown, hts, hlk, hnm, htn⟩ := C
  simp only [am_one] at hone
  split at hone
  · rename_i b a st0
    simp only [am_br, am_cmp] at hone
    obtain ⟨tg, htg⟩ : ∃ tg : Nat, (pc : Int) + off = (tg : Int) := ⟨((pc : Int) + off).toNat, (Int.toNat_of_nonneg hof).symm⟩
    intro H locs L j r hj hR hS hl
    cases hj
    show W p l e R s m args below meth c H locs nc ns Q (F0 m pc L (.int b :: .int a :: st0.map (am_c B x)))
    by_cases hc : ¬ a = b
    · rw [decide_eq_true hc] at hone
      obtain ⟨tgt, ht, K⟩ := am_jp_use hone hW
      exact lv_icmp_ne hx hb hd ht (fun _ => K H locs L hR hS hl) (fun hz => absurd hz hc)
    · have hc2 := Classical.not_not.mp hc
      rw [decide_eq_false hc] at hone
      exact lv_icmp_ne hx hb hd htg (fun hz => absurd hz hc) (fun _ => (am_go_use hone hW H locs L hR hS hl))
  · cases hone
theorem am_s_if_lt {off : Int} (C : am_C p s m args meth c M) (hd : decode M.1.2.2 pc = .ok (.ifCond .lt off, 3)) (hof : 0 ≤ (pc : Int) + off)
    (hone : am_one am_φ ex G rc M ((pc, 3, .ifCond .lt off, an, v0) :: cs, ls, st, ks, h, nc, ns) = some (.inl f')) (hW : am_Wf p l e R s m args below meth c D cl B x ex M.2.1.1 Q f') : am_Wf p l e R s m args below meth c D cl B x ex M.2.1.1 Q ((pc, 3, .ifCond .lt off, an, v0) :: cs, ls, st, ks, h, nc, ns) := by
  obtain ⟨hx, hb, hml, hr, hown, hts, hlk, hnm, htn⟩ := C
  simp only [am_one] at hone
  split at hone
  · rename_i a st0
    simp only [am_br, am_cmp] at hone
    obtain ⟨tg, htg⟩ : ∃ tg : Nat, (pc : Int) + off = (tg : Int) := ⟨((pc : Int) + off).toNat, (Int.toNat_of_nonneg hof).symm⟩
    intro H locs L j r hj hR hS hl
    cases hj
    show W p l e R s m args below meth c H locs nc ns Q (F0 m pc L (.int a :: st0.map (am_c B x)))
    by_cases hc : a < 0
    · rw [decide_eq_true hc] at hone
      obtain ⟨tgt, ht, K⟩ := am_jp_use hone hW
      exact lv_if_lt hx hb hd ht (fun _ => K H locs L hR hS hl) (fun hz => absurd hc hz)
    · rw [decide_eq_false hc] at hone
      exact lv_if_lt hx hb hd htg (fun hz => absurd hz hc) (fun _ => (am_go_use hone hW H locs L hR hS hl))
  · cases hone
theorem am_s_icmp_lt {off : Int} (C : am_C p s m args meth c M) (hd : decode M.1.2.2 pc = .ok (.if_icmp .lt off, 3)) (hof : 0 ≤ (pc : Int) + off)
    (hone : am_one am_φ ex G rc M ((pc, 3, .if_icmp .lt off, an, v0) :: cs, ls, st, ks, h, nc, ns) = some (.inl f')) (hW : am_Wf p l e R s m args below meth c D cl B x ex M.2.1.1 Q f') : am_Wf p l e R s m args below meth c D cl B x ex M.2.1.1 Q ((pc, 3, .if_icmp .lt off, an, v0) :: cs, ls, st, ks, h, nc, ns) := by
  obtain ⟨hx, hb, hml, hr, hown, hts, hlk, hnm, htn⟩ := C
  simp only [am_one] at hone
  split at hone
  · rename_i b a st0
    simp only [am_br, am_cmp] at hone
    obtain ⟨tg, htg⟩ : ∃ tg : Nat, (pc : Int) + off = (tg : Int) := ⟨((pc : Int) + off).toNat, (Int.toNat_of_nonneg hof).symm⟩
    intro H locs L j r hj hR hS hl
    cases hj
    show W p l e R s m args below meth c H locs nc ns Q (F0 m pc L (.int b :: .int a :: st0.map (am_c B x)))
    by_cases hc : a < b
    · rw [decide_eq_true hc] at hone
      obtain ⟨tgt, ht, K⟩ := am_jp_use hone hW
      exact lv_icmp_lt hx hb hd ht (fun _ => K H locs L hR hS hl) (fun hz => absurd hc hz)
    · rw [decide_eq_false hc] at hone
      exact lv_icmp_lt hx hb hd htg (fun hz => absurd hz hc) (fun _ => (am_go_use hone hW H locs L hR hS hl))
  · cases hone
theorem am_s_if_ge {off : Int} (C : am_C p s m args meth c M) (hd : decode M.1.2.2 pc = .ok (.ifCond .ge off, 3)) (hof : 0 ≤ (pc : Int) + off)
    (hone : am_one am_φ ex G rc M ((pc, 3, .ifCond .ge off, an, v0) :: cs, ls, st, ks, h, nc, ns) = some (.inl f')) (hW : am_Wf p l e R s m args below meth c D cl B x ex M.2.1.1 Q f') : am_Wf p l e R s m args below meth c D cl B x ex M.2.1.1 Q ((pc, 3, .ifCond .ge off, an, v0) :: cs, ls, st, ks, h, nc, ns) := by
  obtain ⟨hx, hb, hml, hr, hown, hts, hlk, hnm, htn⟩ := C
  simp only [am_one] at hone
  split at hone
  · rename_i a st0
    simp only [am_br, am_cmp] at hone
    obtain ⟨tg, htg⟩ : ∃ tg : Nat, (pc : Int) + off = (tg : Int) := ⟨((pc : Int) + off).toNat, (Int.toNat_of_nonneg hof).symm⟩
    intro H locs L j r hj hR hS hl
    cases hj
    show W p l e R s m args below meth c H locs nc ns Q (F0 m pc L (.int a :: st0.map (am_c B x)))
    by_cases hc : 0 ≤ a
    · rw [decide_eq_true hc] at hone
      obtain ⟨tgt, ht, K⟩ := am_jp_use hone hW
      exact lv_if_ge hx hb hd ht (fun _ => K H locs L hR hS hl) (fun hz => absurd hc hz)
    · rw [decide_eq_false hc] at hone
      exact lv_if_ge hx hb hd htg (fun hz => absurd hz hc) (fun _ => (am_go_use hone hW H locs L hR hS hl))
  · cases hone
theorem am_s_icmp_ge {off : Int} (C : am_C p s m args meth c M) (hd : decode M.1.2.2 pc = .ok (.if_icmp .ge off, 3)) (hof : 0 ≤ (pc : Int) + off)
    (hone : am_one am_φ ex G rc M ((pc, 3, .if_icmp .ge off, an, v0) :: cs, ls, st, ks, h, nc, ns) = some (.inl f')) (hW : am_Wf p l e R s m args below meth c D cl B x ex M.2.1.1 Q f') : am_Wf p l e R s m args below meth c D cl B x ex M.2.1.1 Q ((pc, 3, .if_icmp .ge off, an, v0) :: cs, ls, st, ks, h, nc, ns) := by
  obtain ⟨hx, hb, hml, hr, hown, hts, hlk, hnm, htn⟩ := C
  simp only [am_one] at hone
  split at hone
  · rename_i b a st0
    simp only [am_br, am_cmp] at hone
    obtain ⟨tg, htg⟩ : ∃ tg : Nat, (pc : Int) + off = (tg : Int) := ⟨((pc : Int) + off).toNat, (Int.toNat_of_nonneg hof).symm⟩
    intro H locs L j r hj hR hS hl
    cases hj
    show W p l e R s m args below meth c H locs nc ns Q (F0 m pc L (.int b :: .int a :: st0.map (am_c B x)))
    by_cases hc : b ≤ a
    · rw [decide_eq_true hc] at hone
      obtain ⟨tgt, ht, K⟩ := am_jp_use hone hW
      exact lv_icmp_ge hx hb hd ht (fun _ => K H locs L hR hS hl) (fun hz => absurd hc hz)
    · rw [decide_eq_false hc] at hone
      exact lv_icmp_ge hx hb hd htg (fun hz => absurd hz hc) (fun _ => (am_go_use hone hW H locs L hR hS hl))
  · cases hone
theorem am_s_if_gt {off : Int} (C : am_C p s m args meth c M) (hd : decode M.1.2.2 pc = .ok (.ifCond .gt off, 3)) (hof : 0 ≤ (pc : Int) + off)
    (hone : am_one am_φ ex G rc M ((pc, 3, .ifCond .gt off, an, v0) :: cs, ls, st, ks, h, nc, ns) = some (.inl f')) (hW : am_Wf p l e R s m args below meth c D cl B x ex M.2.1.1 Q f') : am_Wf p l e R s m args below meth c D cl B x ex M.2.1.1 Q ((pc, 3, .ifCond .gt off, an, v0) :: cs, ls, st, ks, h, nc, ns) := by
  obtain ⟨hx, hb, hml, hr, hown, hts, hlk, hnm, htn⟩ := C
  simp only [am_one] at hone
  split at hone
  · rename_i a st0
    simp only [am_br, am_cmp] at hone
    obtain ⟨tg, htg⟩ : ∃ tg : Nat, (pc : Int) + off = (tg : Int) := ⟨((pc : Int) + off).toNat, (Int.toNat_of_nonneg hof).symm⟩
    intro H locs L j r hj hR hS hl
    cases hj
    show W p l e R s m args below meth c H locs nc ns Q (F0 m pc L (.int a :: st0.map (am_c B x)))
    by_cases hc : 0 < a
    · rw [decide_eq_true hc] at hone
      obtain ⟨tgt, ht, K⟩ := am_jp_use hone hW
      exact lv_if_gt hx hb hd ht (fun _ => K H locs L hR hS hl) (fun hz => absurd hc hz)
    · rw [decide_eq_false hc] at hone
      exact lv_if_gt hx hb hd htg (fun hz => absurd hz hc) (fun _ => (am_go_use hone hW H locs L hR hS hl))
  · cases hone
theorem am_s_icmp_gt {off : Int} (C : am_C p s m args meth c M) (hd : decode M.1.2.2 pc = .ok (.if_icmp .gt off, 3)) (hof : 0 ≤ (pc : Int) + off)
    (hone : am_one am_φ ex G rc M ((pc, 3, .if_icmp .gt off, an, v0) :: cs, ls, st, ks, h, nc, ns) = some (.inl f')) (hW : am_Wf p l e R s m args below meth c D cl B x ex M.2.1.1 Q f') : am_Wf p l e R s m args below meth c D cl B x ex M.2.1.1 Q ((pc, 3, .if_icmp .gt off, an, v0) :: cs, ls, st, ks, h, nc, ns) := by
  obtain ⟨hx, hb, hml, hr, hown, hts, hlk, hnm, htn⟩ := C
  simp only [am_one] at hone
  split at hone
  · rename_i b a st0
    simp only [am_br, am_cmp] at hone
    obtain ⟨tg, htg⟩ : ∃ tg : Nat, (pc : Int) + off = (tg : Int) := ⟨((pc : Int) + off).toNat, (Int.toNat_of_nonneg hof).symm⟩
    intro H locs L j r hj hR hS hl
    cases hj
    show W p l e R s m args below meth c H locs nc ns Q (F0 m pc L (.int b :: .int a :: st0.map (am_c B x)))
    by_cases hc : b < a
    · rw [decide_eq_true hc] at hone
      obtain ⟨tgt, ht, K⟩ := am_jp_use hone hW
      exact lv_icmp_gt hx hb hd ht (fun _ => K H locs L hR hS hl) (fun hz => absurd hc hz)
    · rw [decide_eq_false hc] at hone
      exact lv_icmp_gt hx hb hd htg (fun hz => absurd hz hc) (fun _ => (am_go_use hone hW H locs L hR hS hl))
  · cases hone
theorem am_s_if_le {off : Int} (C : am_C p s m args meth c M) (hd : decode M.1.2.2 pc = .ok (.ifCond .le off, 3)) (hof : 0 ≤ (pc : Int) + off)
    (hone : am_one am_φ ex G rc M ((pc, 3, .ifCond .le off, an, v0) :: cs, ls, st, ks, h, nc, ns) = some (.inl f')) (hW : am_Wf p l e R s m args below meth c D cl B x ex M.2.1.1 Q f') : am_Wf p l e R s m args below meth c D cl B x ex M.2.1.1 Q ((pc, 3, .ifCond .le off, an, v0) :: cs, ls, st, ks, h, nc, ns) := by
  obtain ⟨hx, hb, hml, hr, hown, hts, hlk, hnm, htn⟩ := C
  simp only [am_one] at hone
  split at hone
  · rename_i a st0
    simp only [am_br, am_cmp] at hone
    obtain ⟨tg, htg⟩ : ∃ tg : Nat, (pc : Int) + off = (tg : Int) := ⟨((pc : Int) + off).toNat, (Int.toNat_of_nonneg hof).symm⟩
    intro H locs L j r hj hR hS hl
    cases hj
    show W p l e R s m args below meth c H locs nc ns Q (F0 m pc L (.int a :: st0.map (am_c B x)))
    by_cases hc : a ≤ 0
    · rw [decide_eq_true hc] at hone
      obtain ⟨tgt, ht, K⟩ := am_jp_use hone hW
      exact lv_if_le hx hb hd ht (fun _ => K H locs L hR hS hl) (fun hz => absurd hc hz)
    · rw [decide_eq_false hc] at hone
      exact lv_if_le hx hb hd htg (fun hz => absurd hz hc) (fun _ => (am_go_use hone hW H locs L hR hS hl))
  · cases hone
theorem am_s_icmp_le {off : Int} (C : am_C p s m args meth c M) (hd : decode M.1.2.2 pc = .ok (.if_icmp .le off, 3)) (hof : 0 ≤ (pc : Int) + off)
    (hone : am_one am_φ ex G rc M ((pc, 3, .if_icmp .le off, an, v0) :: cs, ls, st, ks, h, nc, ns) = some (.inl f')) (hW : am_Wf p l e R s m args below meth c D cl B x ex M.2.1.1 Q f') : am_Wf p l e R s m args below meth c D cl B x ex M.2.1.1 Q ((pc, 3, .if_icmp .le off, an, v0) :: cs, ls, st, ks, h, nc, ns) := by
  obtain ⟨hx, hb, hml, hr, hown, hts, hlk, hnm, htn⟩ := C
  simp only [am_one] at hone
  split at hone
  · rename_i b a st0
    simp only [am_br, am_cmp] at hone
    obtain ⟨tg, htg⟩ : ∃ tg : Nat, (pc : Int) + off = (tg : Int) := ⟨((pc : Int) + off).toNat, (Int.toNat_of_nonneg hof).symm⟩
    intro H locs L j r hj hR hS hl
    cases hj
    show W p l e R s m args below meth c H locs nc ns Q (F0 m pc L (.int b :: .int a :: st0.map (am_c B x)))
    by_cases hc : a ≤ b
    · rw [decide_eq_true hc] at hone
      obtain ⟨tgt, ht, K⟩ := am_jp_use hone hW
      exact lv_icmp_le hx hb hd ht (fun _ => K H locs L hR hS hl) (fun hz => absurd hc hz)
    · rw [decide_eq_false hc] at hone
      exact lv_icmp_le hx hb hd htg (fun hz => absurd hz hc) (fun _ => (am_go_use hone hW H locs L hR hS hl))
  · cases hone
theorem am_s_tsw {dflt lo hi : Int} {offs : Array Int} (C : am_C p s m args meth c M) (hd : decode M.1.2.2 pc = .ok (.tableswitch dflt lo hi offs, len))
    (hone : am_one am_φ ex G rc M ((pc, len, .tableswitch dflt lo hi offs, an, v0) :: cs, ls, st, ks, h, nc, ns) = some (.inl f')) (hW : am_Wf p l e R s m args below meth c D cl B x ex M.2.1.1 Q f') : am_Wf p l e R s m args below meth c D cl B x ex M.2.1.1 Q ((pc, len, .tableswitch dflt lo hi offs, an, v0) :: cs, ls, st, ks, h, nc, ns) := by
  obtain ⟨hx, hb, hml, hr, hown, hts, hlk, hnm, htn⟩ := C
  simp only [am_one] at hone
  split at hone
  · rename_i a st0
    split at hone
    · rename_i hc
      obtain ⟨tgt, ht, K⟩ := am_sw_use hone hW
      intro H locs L j r hj hR hS hl
      cases hj
      exact lv_tableOut (x := a) hx hb hd hc ht (K H locs L hR hS hl)
    · rename_i hc
      split at hone
      · rename_i off ho
        obtain ⟨tgt, ht, K⟩ := am_sw_use hone hW
        intro H locs L j r hj hR hS hl
        cases hj
        exact lv_tableIn (x := a) hx hb hd (fun z => hc (Or.inl z)) (fun z => hc (Or.inr z)) ho ht (K H locs L hR hS hl)
      · cases hone
  · cases hone
end AMS
