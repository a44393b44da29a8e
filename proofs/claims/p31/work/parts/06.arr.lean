/-! ===== ARRAYS, AND WHAT IS MADE ===== -/
theorem am_K1 {D : va_G} {cl : List vw_C} {U : State} {ca : ClassId} {ty : FieldType} (hK : va_K D cl [] U) (h : ArrOfT U ca ty ∧ va_RA U ca ty) : va_K D cl [(ca, ty)] U := by
  refine ⟨hK.1, fun k q hq => ?_⟩
  have hz : k < 1 := (List.getElem?_eq_some_iff.mp hq).1
  rw [show k = 0 by omega] at hq
  cases hq
  exact h
theorem am_upd_i (h : am_H) (q k : Nat) (v : Int32) : upd (fun j => am_i (h q j)) k v = fun j => am_i (am_up h q k (.int v) q j) := by
  funext j
  by_cases hj : j = k
  · subst hj; simp [upd, am_up_self, am_i]
  · simp [upd, hj, am_up_same _ _ _ _ _ hj]
theorem am_upd_l (h : am_H) (q k : Nat) (v : Int64) : vp_updL (fun j => am_l (h q j)) k v = fun j => am_l (am_up h q k (.long v) q j) := by
  funext j
  by_cases hj : j = k
  · subst hj; simp [vp_updL, am_up_self, am_l]
  · simp [vp_updL, hj, am_up_same _ _ _ _ _ hj]
theorem am_upd_o (B : Nat) (h : am_H) (q k v : Nat) : va_up (fun j => am_o B (h q j)) k (some (B + v)) = fun j => am_o B (am_up h q k (.ref v) q j) := by
  funext j
  by_cases hj : j = k
  · subst hj; simp [va_up, am_up_self, am_o]
  · simp [va_up, hj, am_up_same _ _ _ _ _ hj]
theorem am_nar_b {v : Int32} (h : am_fit .boolean (.int v) = true) : vp_nar .boolean v = v := by
  have : v = 0 ∨ v = 1 := by simpa [am_fit] using h
  rcases this with rfl | rfl <;> rfl
theorem am_lo {D : va_G} {cl : List vw_C} {B : Nat} {x : Nat → Nat} {dA : Nat → ClassId} {ks : List am_k} {h : am_H} {H : Heap} (hP : va_P D cl (am_W cl B x dA ks h) H) (hB : B ≤ H.size) : B + ks.length ≤ H.size := by
  by_cases hk : ks.length = 0
  · omega
  · have hlt : ks.length - 1 < ks.length := by omega
    have := (hP (ks.length - 1) _ (am_W_some (List.getElem?_eq_getElem hlt))).lt
    have h2 : B + (ks.length - 1) < H.size := this
    omega
section AMA
variable {p : Program} {l : Launch} {e : Env} {R : Room} {s : State} {m : MethodId} {args : Array Value} {below : List Frame} {meth : Method} {c : Code} {D : va_G} {cl : List vw_C} {B : Nat} {x : Nat → Nat} {ex : Bool} {nL : Nat} {Q : State → Prop} {M : am_M} {f' : am_F}
variable {pc len : Nat} {ins : Instr} {an : Nat × Nat × Nat} {v0 : Int} {cs : List am_I} {ls : am_L} {st : List Value} {ks : List am_k} {h : am_H} {nc ns : Nat} {G : am_G} {rc : am_rec}
theorem am_size {H : Heap} {locs : List Loc} {g : JFrame} (kk : H.size ≤ s.heap.size + nc → W p l e R s m args below meth c H locs nc ns Q g) : W p l e R s m args below meth c H locs nc ns Q g := by
  intro T hT X
  have hs : T.heap.size ≤ s.heap.size + nc := X.same.2.2.1
  rw [hT] at hs
  exact kk hs T hT X
theorem am_s_iaload (C : am_C p s m args meth c M) (hscr : am_scr G B x s) (hd : decode M.1.2.2 pc = .ok (.iaload, 1))
    (hone : am_one am_φ ex G rc M ((pc, 1, .iaload, an, v0) :: cs, ls, st, ks, h, nc, ns) = some (.inl f')) (hW : am_Wf p l e R s m args below meth c D cl B x ex M.2.1.1 Q f') : am_Wf p l e R s m args below meth c D cl B x ex M.2.1.1 Q ((pc, 1, .iaload, an, v0) :: cs, ls, st, ks, h, nc, ns) := by
  obtain ⟨hx, hb, hml, hr, hown, hts, hlk, hnm, htn⟩ := C
  simp only [am_one] at hone
  split at hone
  · rename_i j a st0
    rcases am_ald_use hone with ⟨q, n, rfl, hks, hin, hk⟩ | ⟨L0, xs, rfl, hs, -, hin, hk⟩
    · unfold am_pushI at hk
      split at hk
      · rename_i y hy
        intro H locs L i r hj hR hS hl
        cases hj
        obtain ⟨hK, dA, hP, hA, hz⟩ := hR
        have he := am_W_some (cl := cl) (B := B) (x := x) (dA := dA) (h := h) hks
        refine va_iald (n := n) (f := fun j => am_i (h q j)) hx hb (am_K1 hK (hA q .int n hks)) hP q 0 he rfl hin hd ?_
        have h1 : am_i (h q j.toNatClampNeg) = y := by rw [hy]; rfl
        show W p l e R s m args below meth c H locs nc ns Q (F0 m (pc + 1) L (.int (am_i (h q j.toNatClampNeg)) :: st0.map (am_c B x)))
        rw [h1]
        exact am_go_use hk hW H locs L ⟨hK, dA, hP, hA, hz⟩ hS hl
      · cases hk
    · intro H locs L i r hj hR hS hl
      cases hj
      obtain ⟨s1, s2, s3⟩ := hscr L0 xs hs
      exact va_sld hx hb s1 s2 s3 hS hin hd (am_go_use hk hW H locs L hR hS hl)
  · cases hone
theorem am_s_baload (C : am_C p s m args meth c M) (hd : decode M.1.2.2 pc = .ok (.baload, 1))
    (hone : am_one am_φ ex G rc M ((pc, 1, .baload, an, v0) :: cs, ls, st, ks, h, nc, ns) = some (.inl f')) (hW : am_Wf p l e R s m args below meth c D cl B x ex M.2.1.1 Q f') : am_Wf p l e R s m args below meth c D cl B x ex M.2.1.1 Q ((pc, 1, .baload, an, v0) :: cs, ls, st, ks, h, nc, ns) := by
  obtain ⟨hx, hb, hml, hr, hown, hts, hlk, hnm, htn⟩ := C
  simp only [am_one] at hone
  split at hone
  · rename_i j o st0
    rcases am_ald_use hone with ⟨q, n, hq, hks, hin, hk⟩ | ⟨L0, xs, hq, hs, -, hin, hk⟩
    · cases hq
      unfold am_pushI at hk
      split at hk
      · rename_i y hy
        intro H locs L i r hj hR hS hl
        cases hj
        obtain ⟨hK, dA, hP, hA, hz⟩ := hR
        have he := am_W_some (cl := cl) (B := B) (x := x) (dA := dA) (h := h) hks
        refine va_zald (n := n) (f := fun j => am_i (h o j)) hx hb (am_K1 hK (hA o .boolean n hks)) hP o 0 he rfl hin hd ?_
        have h1 : am_i (h o j.toNatClampNeg) = y := by rw [hy]; rfl
        show W p l e R s m args below meth c H locs nc ns Q (F0 m (pc + 1) L (.int (am_i (h o j.toNatClampNeg)) :: st0.map (am_c B x)))
        rw [h1]
        exact am_go_use hk hW H locs L ⟨hK, dA, hP, hA, hz⟩ hS hl
      · cases hk
    · cases hq
  · cases hone
theorem am_s_laload (C : am_C p s m args meth c M) (hd : decode M.1.2.2 pc = .ok (.laload, 1))
    (hone : am_one am_φ ex G rc M ((pc, 1, .laload, an, v0) :: cs, ls, st, ks, h, nc, ns) = some (.inl f')) (hW : am_Wf p l e R s m args below meth c D cl B x ex M.2.1.1 Q f') : am_Wf p l e R s m args below meth c D cl B x ex M.2.1.1 Q ((pc, 1, .laload, an, v0) :: cs, ls, st, ks, h, nc, ns) := by
  obtain ⟨hx, hb, hml, hr, hown, hts, hlk, hnm, htn⟩ := C
  simp only [am_one] at hone
  split at hone
  · rename_i j o st0
    rcases am_ald_use hone with ⟨q, n, hq, hks, hin, hk⟩ | ⟨L0, xs, hq, hs, -, hin, hk⟩
    · cases hq
      unfold am_pushL at hk
      split at hk
      · rename_i y hy
        intro H locs L i r hj hR hS hl
        cases hj
        obtain ⟨hK, dA, hP, hA, hz⟩ := hR
        have he := am_W_some (cl := cl) (B := B) (x := x) (dA := dA) (h := h) hks
        refine va_lald (n := n) (f := fun j => am_l (h o j)) hx hb (am_K1 hK (hA o .long n hks)) hP o 0 he rfl hin hd ?_
        have h1 : am_l (h o j.toNatClampNeg) = y := by rw [hy]; rfl
        show W p l e R s m args below meth c H locs nc ns Q (F0 m (pc + 1) L (.long (am_l (h o j.toNatClampNeg)) :: st0.map (am_c B x)))
        rw [h1]
        exact am_go_use hk hW H locs L ⟨hK, dA, hP, hA, hz⟩ hS hl
      · cases hk
    · cases hq
  · cases hone
theorem am_s_aaload (C : am_C p s m args meth c M) (hd : decode M.1.2.2 pc = .ok (.aaload, 1))
    (hone : am_one am_φ ex G rc M ((pc, 1, .aaload, an, v0) :: cs, ls, st, ks, h, nc, ns) = some (.inl f')) (hW : am_Wf p l e R s m args below meth c D cl B x ex M.2.1.1 Q f') : am_Wf p l e R s m args below meth c D cl B x ex M.2.1.1 Q ((pc, 1, .aaload, an, v0) :: cs, ls, st, ks, h, nc, ns) := by
  obtain ⟨hx, hb, hml, hr, hown, hts, hlk, hnm, htn⟩ := C
  simp only [am_one] at hone
  split at hone
  · rename_i j o st0
    unfold am_aald at hone
    split at hone
    · rename_i C0 n hks
      obtain ⟨hin, hk⟩ := am_ix_use hone
      simp only [am_pushR] at hk
      split at hk
      · rename_i y hy
        intro H locs L i r hj hR hS hl
        cases hj
        obtain ⟨hK, dA, hP, hA, hz⟩ := hR
        have he := am_W_some (cl := cl) (B := B) (x := x) (dA := dA) (h := h) hks
        refine va_aldq (n := n) (f := fun j => am_o B (h o j)) hx hb (am_K1 hK (hA o _ n hks)) hP o 0 he rfl hin hd ?_
        have h1 : va_rf (am_o B (h o j.toNatClampNeg)) = .ref (B + y) := by rw [hy]; rfl
        show W p l e R s m args below meth c H locs nc ns Q (F0 m (pc + 1) L (va_rf (am_o B (h o j.toNatClampNeg)) :: st0.map (am_c B x)))
        rw [h1]
        exact am_go_use hk hW H locs L ⟨hK, dA, hP, hA, hz⟩ hS hl
      · cases hk
    · cases hone
  · cases hone
theorem am_s_iastore (C : am_C p s m args meth c M) (hd : decode M.1.2.2 pc = .ok (.iastore, 1))
    (hone : am_one am_φ ex G rc M ((pc, 1, .iastore, an, v0) :: cs, ls, st, ks, h, nc, ns) = some (.inl f')) (hW : am_Wf p l e R s m args below meth c D cl B x ex M.2.1.1 Q f') : am_Wf p l e R s m args below meth c D cl B x ex M.2.1.1 Q ((pc, 1, .iastore, an, v0) :: cs, ls, st, ks, h, nc, ns) := by
  obtain ⟨hx, hb, hml, hr, hown, hts, hlk, hnm, htn⟩ := C
  simp only [am_one] at hone
  split at hone
  · rename_i y j a st0
    simp only [am_φ, am_pushI, am_pushL] at hone
    obtain ⟨q, n, rfl, hks, hin, hk⟩ := am_ast_use hone
    intro H locs L i r hj hR hS hl
    cases hj
    obtain ⟨hK, dA, hP, hA, hz⟩ := hR
    have he := am_W_some (cl := cl) (B := B) (x := x) (dA := dA) (h := h) hks
    refine va_iast (n := n) (f := fun j => am_i (h q j)) hx hb (am_K1 hK (hA q .int n hks)) hP am_W_D hS q 0 he rfl hin hd (fun H1 locs1 q1 q2 q3 => ?_)
    rw [am_W_ast (k := j.toNatClampNeg) (v := .int y) hks (by rw [am_upd_i]; rfl)] at q1
    exact am_go_use hk hW H1 locs1 L ⟨hK, dA, q1, hA, hz⟩ q3 hl
  · cases hone
theorem am_s_bastore (C : am_C p s m args meth c M) (hd : decode M.1.2.2 pc = .ok (.bastore, 1))
    (hone : am_one am_φ ex G rc M ((pc, 1, .bastore, an, v0) :: cs, ls, st, ks, h, nc, ns) = some (.inl f')) (hW : am_Wf p l e R s m args below meth c D cl B x ex M.2.1.1 Q f') : am_Wf p l e R s m args below meth c D cl B x ex M.2.1.1 Q ((pc, 1, .bastore, an, v0) :: cs, ls, st, ks, h, nc, ns) := by
  obtain ⟨hx, hb, hml, hr, hown, hts, hlk, hnm, htn⟩ := C
  simp only [am_one] at hone
  split at hone
  · rename_i y j a st0
    cases hfb : am_fit .boolean (.int y) with
    | false => rw [hfb] at hone; cases hone
    | true =>
    rw [hfb, cond_true] at hone
    simp only [am_φ, am_pushI, am_pushL] at hone
    obtain ⟨q, n, rfl, hks, hin, hk⟩ := am_ast_use hone
    intro H locs L i r hj hR hS hl
    cases hj
    obtain ⟨hK, dA, hP, hA, hz⟩ := hR
    have he := am_W_some (cl := cl) (B := B) (x := x) (dA := dA) (h := h) hks
    refine va_zast (n := n) (f := fun j => am_i (h q j)) hx hb (am_K1 hK (hA q .boolean n hks)) hP am_W_D hS q 0 he rfl hin hd (fun H1 locs1 q1 q2 q3 => ?_)
    rw [am_nar_b hfb, am_W_ast (k := j.toNatClampNeg) (v := .int y) hks (by rw [am_upd_i]; rfl)] at q1
    exact am_go_use hk hW H1 locs1 L ⟨hK, dA, q1, hA, hz⟩ q3 hl
  · cases hone
theorem am_s_lastore (C : am_C p s m args meth c M) (hd : decode M.1.2.2 pc = .ok (.lastore, 1))
    (hone : am_one am_φ ex G rc M ((pc, 1, .lastore, an, v0) :: cs, ls, st, ks, h, nc, ns) = some (.inl f')) (hW : am_Wf p l e R s m args below meth c D cl B x ex M.2.1.1 Q f') : am_Wf p l e R s m args below meth c D cl B x ex M.2.1.1 Q ((pc, 1, .lastore, an, v0) :: cs, ls, st, ks, h, nc, ns) := by
  obtain ⟨hx, hb, hml, hr, hown, hts, hlk, hnm, htn⟩ := C
  simp only [am_one] at hone
  split at hone
  · rename_i y j a st0
    simp only [am_φ, am_pushI, am_pushL] at hone
    obtain ⟨q, n, rfl, hks, hin, hk⟩ := am_ast_use hone
    intro H locs L i r hj hR hS hl
    cases hj
    obtain ⟨hK, dA, hP, hA, hz⟩ := hR
    have he := am_W_some (cl := cl) (B := B) (x := x) (dA := dA) (h := h) hks
    refine va_last (n := n) (f := fun j => am_l (h q j)) hx hb (am_K1 hK (hA q .long n hks)) hP am_W_D hS q 0 he rfl hin hd (fun H1 locs1 q1 q2 q3 => ?_)
    rw [am_W_ast (k := j.toNatClampNeg) (v := .long y) hks (by rw [am_upd_l]; rfl)] at q1
    exact am_go_use hk hW H1 locs1 L ⟨hK, dA, q1, hA, hz⟩ q3 hl
  · cases hone
theorem am_s_aastore (C : am_C p s m args meth c M) (hG : am_okG cl G) (hd : decode M.1.2.2 pc = .ok (.aastore, 1))
    (hone : am_one am_φ ex G rc M ((pc, 1, .aastore, an, v0) :: cs, ls, st, ks, h, nc, ns) = some (.inl f')) (hW : am_Wf p l e R s m args below meth c D cl B x ex M.2.1.1 Q f') : am_Wf p l e R s m args below meth c D cl B x ex M.2.1.1 Q ((pc, 1, .aastore, an, v0) :: cs, ls, st, ks, h, nc, ns) := by
  obtain ⟨hx, hb, hml, hr, hown, hts, hlk, hnm, htn⟩ := C
  simp only [am_one] at hone
  split at hone
  · rename_i v j o st0
    unfold am_aast at hone
    split at hone
    · rename_i C0 n hks
      split at hone
      · rename_i ci hkv
        cases hdc : decide (G.2.2.1 ci = C0) with
        | false => rw [hdc] at hone; cases hone
        | true =>
        rw [hdc, cond_true] at hone
        obtain ⟨hin, hk⟩ := am_ix_use hone
        intro H locs L i r hj hR hS hl
        cases hj
        obtain ⟨hK, dA, hP, hA, hz⟩ := hR
        have he := am_W_some (cl := cl) (B := B) (x := x) (dA := dA) (h := h) hks
        have hev := am_W_some (cl := cl) (B := B) (x := x) (dA := dA) (h := h) hkv
        obtain ⟨rr, hcc, -⟩ := hP v _ hev
        have hcc : cl[ci]? = some rr := hcc
        have hnm2 := (hG ci rr hcc).2.1
        have hC0 : C0 = rr.1 := (of_decide_eq_true hdc).symm.trans hnm2
        subst hC0
        refine va_astq (n := n) (f := fun j => am_o B (h o j)) hx hb (am_K1 hK (hA o _ n hks)) hP am_W_D hS o 0 v ci he rfl hev hcc hin hd (fun H1 locs1 q1 q2 q3 => ?_)
        rw [am_W_ast (k := j.toNatClampNeg) (v := .ref v) hks (by rw [am_upd_o]; rfl)] at q1
        exact am_go_use hk hW H1 locs1 L ⟨hK, dA, q1, hA, hz⟩ q3 hl
      · cases hone
    · cases hone
  · cases hone
theorem am_s_arraylength (C : am_C p s m args meth c M) (hscr : am_scr G B x s) (hd : decode M.1.2.2 pc = .ok (.arraylength, 1))
    (hone : am_one am_φ ex G rc M ((pc, 1, .arraylength, an, v0) :: cs, ls, st, ks, h, nc, ns) = some (.inl f')) (hW : am_Wf p l e R s m args below meth c D cl B x ex M.2.1.1 Q f') : am_Wf p l e R s m args below meth c D cl B x ex M.2.1.1 Q ((pc, 1, .arraylength, an, v0) :: cs, ls, st, ks, h, nc, ns) := by
  obtain ⟨hx, hb, hml, hr, hown, hts, hlk, hnm, htn⟩ := C
  simp only [am_one] at hone
  split at hone
  · rename_i a st0
    unfold am_len at hone
    split at hone
    · rename_i o
      split at hone
      · rename_i ty n hks
        intro H locs L i r hj hR hS hl
        cases hj
        obtain ⟨hK, dA, hP, hA, hz⟩ := hR
        have he := am_W_some (cl := cl) (B := B) (x := x) (dA := dA) (h := h) hks
        exact va_alen hx hb (am_K1 hK (hA o ty n hks)) hP o 0 he rfl (by rw [am_arr_1]) hd (am_go_use hone hW H locs L ⟨hK, dA, hP, hA, hz⟩ hS hl)
      · cases hone
    · split at hone
      · rename_i L0 xs hs
        intro H locs L i r hj hR hS hl
        cases hj
        obtain ⟨s1, s2, s3⟩ := hscr L0 xs hs
        exact va_slen hx hb s1 s2 s3 hS hd (am_go_use hone hW H locs L hR hS hl)
      · cases hone
    · cases hone
  · cases hone
theorem am_cell_new (cA : ClassId) (B n : Nat) (ty : FieldType) (hty : ty = .int ∨ ty = .boolean ∨ ty = .long ∨ ∃ C, ty = .object C) : vp_cell cA (am_arr B n ty (fun _ => defaultValue ty)) = arrV cA n (fun _ => defaultValue ty) := by
  rcases hty with rfl | rfl | rfl | ⟨C, rfl⟩ <;> rfl
/-- behind a making: the new cell stands at the end -/
theorem am_Rel_new {H H1 : Heap} {locs : List Loc} {k : am_k} {f : Nat → Value} {ca : ClassId} {dA : Nat → ClassId} (hB : B ≤ s.heap.size) (hS : va_S (fun q => B ≤ q) s.heap H locs) (hK : va_K D cl [] s) (hP : va_P D cl (am_W cl B x dA ks h) H)
    (hA : ∀ (i : Nat) (ty : FieldType) (n : Nat), ks[i]? = some (.inr (ty, n)) → ArrOfT s (dA i) ty ∧ va_RA s (dA i) ty) (hz : ex = true → s.heap.size + nc = B + ks.length) (hH : H.size = B + ks.length) (z1 : H1.size = H.size + 1) (o1 : ∀ q, q < H.size → H1[q]? = H[q]?)
    (hk : va_at D cl (B + ks.length, am_E cl B x ca k f) H1) (ha : ∀ (ty : FieldType) (n : Nat), k = .inr (ty, n) → ArrOfT s ca ty ∧ va_RA s ca ty) :
    am_Rel D cl B x ex (ks ++ [k]) (am_mk h ks.length f) (s.heap.size + (nc + 1)) s H1 ∧ va_S (fun q => B ≤ q) s.heap H1 locs := by
  refine ⟨⟨hK, fun i => if i = ks.length then ca else dA i, ?_, ?_, ?_⟩, ?_⟩
  · rw [← am_W_new]
    refine (hP.kept (fun i q hq => o1 q.1 (hP i q hq).lt)).app (fun i q hq => ?_)
    have hz : i < 1 := (List.getElem?_eq_some_iff.mp hq).1
    rw [show i = 0 by omega] at hq
    cases hq
    exact hk
  · intro i ty n hi
    by_cases hl : i < ks.length
    · rw [List.getElem?_append_left hl] at hi
      have h9 := hA i ty n hi
      simp only [show ¬ i = ks.length by omega, if_false]
      exact h9
    · rw [List.getElem?_append_right (by omega)] at hi
      have hz : i - ks.length < 1 := (List.getElem?_eq_some_iff.mp hi).1
      have hi0 : i = ks.length := by omega
      subst hi0
      rw [Nat.sub_self] at hi
      have h9 := ha ty n (Option.some.inj hi)
      simp only [if_true]
      exact h9
  · intro h9
    have := hz h9
    rw [List.length_append, List.length_singleton]
    omega
  · exact ⟨Nat.le_trans hS.1 (by omega), fun q h1 h2 => (o1 q (Nat.lt_of_lt_of_le h1 hS.1)).trans (hS.2.1 q h1 h2), hS.2.2⟩
theorem am_s_newarray {t : ArrayType} (C : am_C p s m args meth c M) (hRm : R = am_rm M) (hB : B ≤ s.heap.size) (hw : Cond.arrayClass (Op.newarray.typeOf t) ∈ am_ts) (hty : Op.newarray.typeOf t = .int ∨ Op.newarray.typeOf t = .boolean ∨ Op.newarray.typeOf t = .long) (hd : decode M.1.2.2 pc = .ok (.newarray t, 2))
    (hone : am_one am_φ ex G rc M ((pc, 2, .newarray t, an, v0) :: cs, ls, st, ks, h, nc, ns) = some (.inl f')) (hW : am_Wf p l e R s m args below meth c D cl B x ex M.2.1.1 Q f') : am_Wf p l e R s m args below meth c D cl B x ex M.2.1.1 Q ((pc, 2, .newarray t, an, v0) :: cs, ls, st, ks, h, nc, ns) := by
  obtain ⟨hx, hb, hml, hr, hown, hts, hlk, hnm, htn⟩ := C
  simp only [am_one, am_newA] at hone
  split at hone
  · rename_i n st0
    split at hone
    · cases hone
    rename_i hn
    cases hcc : (ex && Nat.ble (nc + 1) M.2.2.1.2.2.1 && Nat.ble (ns + n.toNatClampNeg) M.2.2.1.2.2.2 && Nat.ble (n.toNatClampNeg * 8) 536870912) with
    | false => rw [hcc] at hone; cases hone
    | true =>
    rw [hcc, cond_true] at hone
    simp only [Bool.and_eq_true] at hcc
    obtain ⟨⟨⟨c1, c2⟩, c3⟩, c4⟩ := hcc
    have c2 := Nat.le_of_ble_eq_true c2
    have c3 := Nat.le_of_ble_eq_true c3
    have c4 := Nat.le_of_ble_eq_true c4
    intro H locs L i r hj hR hS hl
    cases hj
    obtain ⟨hK, dA, hP, hA, hz⟩ := hR
    refine am_size (fun hsz => ?_)
    have hz1 : s.heap.size + nc = B + ks.length := hz c1
    have hlo := am_lo hP (Nat.le_trans hB hS.1)
    have hH : H.size = B + ks.length := Nat.le_antisymm (by rw [← hz1]; exact hsz) hlo
    have hby : n.toNatClampNeg * componentBytes (Op.newarray.typeOf t) ≤ 536870912 := by
      rcases hty with h9 | h9 | h9 <;> rw [h9] <;> simp only [componentBytes] <;> omega
    refine va_newaK (g := F0 m pc L (.int n :: st0.map (am_c B x))) hx hb (hts _ hw) rfl hd rfl hn rfl hby (by rw [hRm]; exact c2) (by rw [hRm]; exact c3) hH (fun H1 cA e1 z1 o1 hAr hNm => ?_)
    have hrel := am_Rel_new (nc := nc) (ex := ex) (H1 := H1) (k := .inr (Op.newarray.typeOf t, n.toNatClampNeg)) (f := fun _ => defaultValue (Op.newarray.typeOf t)) (ca := cA) hB hS hK hP hA hz hH (by rw [z1, hH]) (fun q hq => o1 q (by omega))
      (by show H1[B + ks.length]? = some (vp_cell cA (am_arr B n.toNatClampNeg (Op.newarray.typeOf t) (fun _ => defaultValue (Op.newarray.typeOf t)))); rw [am_cell_new _ _ _ _ (by rcases hty with h9 | h9 | h9 <;> simp [h9])]; exact e1)
      (fun ty n h9 => by cases h9; exact ⟨hAr, by cases t <;> exact hNm⟩)
    exact am_go_use hone hW H1 locs L hrel.1 hrel.2 hl
  · cases hone
theorem am_s_anewarray {idx : Nat} {r0 : vw_C} (C : am_C p s m args meth c M) (hG : am_okG cl G) (hRm : R = am_rm M) (hB : B ≤ s.heap.size) (hc0 : cl[an.1]? = some r0) (hw : Cond.classLink M.1.2.1.cls idx r0.1 ∈ am_ts) (hw2 : Cond.arrayOver (.object r0.1) ∈ am_tn) (hd : decode M.1.2.2 pc = .ok (.anewarray idx, 3))
    (hone : am_one am_φ ex G rc M ((pc, 3, .anewarray idx, an, v0) :: cs, ls, st, ks, h, nc, ns) = some (.inl f')) (hW : am_Wf p l e R s m args below meth c D cl B x ex M.2.1.1 Q f') : am_Wf p l e R s m args below meth c D cl B x ex M.2.1.1 Q ((pc, 3, .anewarray idx, an, v0) :: cs, ls, st, ks, h, nc, ns) := by
  obtain ⟨hx, hb, hml, hr, hown, hts, hlk, hnm, htn⟩ := C
  simp only [am_one, am_newA] at hone
  rw [(hG _ _ hc0).2.1] at hone
  split at hone
  · rename_i n st0
    split at hone
    · cases hone
    rename_i hn
    cases hcc : (ex && Nat.ble (nc + 1) M.2.2.1.2.2.1 && Nat.ble (ns + n.toNatClampNeg) M.2.2.1.2.2.2 && Nat.ble (n.toNatClampNeg * 8) 536870912) with
    | false => rw [hcc] at hone; cases hone
    | true =>
    rw [hcc, cond_true] at hone
    simp only [Bool.and_eq_true] at hcc
    obtain ⟨⟨⟨c1, c2⟩, c3⟩, c4⟩ := hcc
    have c2 := Nat.le_of_ble_eq_true c2
    have c3 := Nat.le_of_ble_eq_true c3
    have c4 := Nat.le_of_ble_eq_true c4
    intro H locs L i r hj hR hS hl
    cases hj
    obtain ⟨hK, dA, hP, hA, hz⟩ := hR
    refine am_size (fun hsz => ?_)
    have hz1 : s.heap.size + nc = B + ks.length := hz c1
    have hlo := am_lo hP (Nat.le_trans hB hS.1)
    have hH : H.size = B + ks.length := Nat.le_antisymm (by rw [← hz1]; exact hsz) hlo
    refine W.anew (g := F0 m pc L (.int n :: st0.map (am_c B x))) hx hb hown (hts _ hw) (htn _ hw2) rfl hd rfl hn (by omega) (by rw [hRm]; exact c2) (by rw [hRm]; exact c3) (fun cA kA comp f1 f2 f3 f4 => ?_)
    generalize hH1 : H.push ({ cls := cA, slots := Array.replicate n.toNatClampNeg .null, vm := .none } : Cell) = H1
    have z1 : H1.size = H.size + 1 := by rw [← hH1, Array.size_push]
    have e1 : H1[H.size]? = some (arrV cA n.toNatClampNeg (fun _ => .null)) := by rw [← hH1, Array.getElem?_push_size, ← arrV_new]
    have o1 : ∀ q : Nat, q < H.size → H1[q]? = H[q]? := fun q hq => by rw [← hH1, Array.getElem?_push, if_neg (Nat.ne_of_lt hq)]
    have hAr : ArrOfT s cA (.object r0.1) := fun N z => ⟨(fun k h => by cases h), kA, f2, comp, f3⟩
    have hrel := am_Rel_new (nc := nc) (ex := ex) (H1 := H1) (k := .inr (.object r0.1, n.toNatClampNeg)) (f := fun _ => defaultValue (.object r0.1)) (ca := cA) hB hS hK hP hA hz hH z1 o1
      (by show H1[B + ks.length]? = some (vp_cell cA (am_arr B n.toNatClampNeg (.object r0.1) (fun _ => defaultValue (.object r0.1)))); rw [am_cell_new _ _ _ _ (by simp), ← hH]; exact e1)
      (fun ty n h9 => by cases h9; exact ⟨hAr, kA, comp, f2, f3, f4, f1⟩)
    have hK2 : W p l e R s m args below meth c H1 locs (nc + 1) (ns + n.toNatClampNeg) Q (F0 m (pc + 3) L (.ref (B + ks.length) :: st0.map (am_c B x))) := am_go_use hone hW H1 locs L hrel.1 hrel.2 hl
    rw [← hH] at hK2
    exact hK2
  · cases hone
theorem am_s_new {idx : Nat} {r0 : vw_C} (C : am_C p s m args meth c M) (hG : am_okG cl G) (hRm : R = am_rm M) (hB : B ≤ s.heap.size) (hc0 : cl[an.1]? = some r0) (hw : Cond.classLink M.1.2.1.cls idx r0.1 ∈ am_ts) (hd : decode M.1.2.2 pc = .ok (.new idx, 3))
    (hone : am_one am_φ ex G rc M ((pc, 3, .new idx, an, v0) :: cs, ls, st, ks, h, nc, ns) = some (.inl f')) (hW : am_Wf p l e R s m args below meth c D cl B x ex M.2.1.1 Q f') : am_Wf p l e R s m args below meth c D cl B x ex M.2.1.1 Q ((pc, 3, .new idx, an, v0) :: cs, ls, st, ks, h, nc, ns) := by
  obtain ⟨hx, hb, hml, hr, hown, hts, hlk, hnm, htn⟩ := C
  obtain ⟨g1, g2, g3, g4, g5, g6, g7⟩ := hG _ _ hc0
  simp only [am_one, am_new] at hone
  rw [g1] at hone
  cases hcc : (ex && Nat.ble (nc + 1) M.2.2.1.2.2.1 && Nat.ble (ns + r0.2.2) M.2.2.1.2.2.2) with
  | false => rw [hcc] at hone; cases hone
  | true =>
  rw [hcc, cond_true] at hone
  simp only [Bool.and_eq_true] at hcc
  obtain ⟨⟨c1, c2⟩, c3⟩ := hcc
  have c2 := Nat.le_of_ble_eq_true c2
  have c3 := Nat.le_of_ble_eq_true c3
  intro H locs L i r hj hR hS hl
  cases hj
  obtain ⟨hK, dA, hP, hA, hz⟩ := hR
  refine am_size (fun hsz => ?_)
  have hz1 : s.heap.size + nc = B + ks.length := hz c1
  have hlo := am_lo hP (Nat.le_trans hB hS.1)
  have hH : H.size = B + ks.length := Nat.le_antisymm (by rw [← hz1]; exact hsz) hlo
  have hKn := hK.1 an.1 _ hc0
  refine W.newcK (g := F0 m pc L (st.map (am_c B x))) hx hb hown (hts _ hw) (hts _ g6) (hts _ g7) rfl hd (by rw [hRm]; exact c2) (by rw [hRm]; exact c3) hKn.2.1 hH (fun H1 kC hkC e1 z1 o1 => ?_)
  have hrel := am_Rel_new (nc := nc) (ex := ex) (H1 := H1) (k := .inl an.1) (f := fun j => defaultValue ((G.2.1 an.1).getD j .int)) (ca := 0) hB hS hK hP hA hz hH (by rw [z1, hH]) (fun q hq => o1 q (by omega))
    ⟨r0, hc0, (u_born (fun k => (G.2.1 an.1).getD k .int) hts g5 hKn hkC e1 g3).to (fun j hj => by
      have hN := am_N_of hc0
      rw [hN]
      simp only [vp_V]
      rw [List.getD_eq_getElem?_getD]
      simp [hj]
      cases ((G.2.1 an.1)[j]?.getD .int) <;> rfl)⟩
    (fun ty n h9 => by cases h9)
  exact am_go_use hone hW H1 locs L hrel.1 hrel.2 hl
end AMA
