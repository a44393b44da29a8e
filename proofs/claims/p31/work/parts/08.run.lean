/-! ===== A RUN OF THE SMALL MACHINE IS ONE OF THE TRUE ONE ===== -/
/-- what the tables say of the method that catches, with its table of handlers -/
def am_okL (G : am_G) (hh : List (Nat × Nat × Nat × Nat)) : Prop := Cond.static G.2.2.2.2.2.1.1.2.1 ∈ am_ts ∧ Cond.initialized G.2.2.2.2.2.1.1.2.1.cls ∈ am_ts ∧ Cond.codeWith G.2.2.2.2.2.1.1.2.1 G.2.2.2.2.2.1.1.2.2 G.2.2.2.2.2.1.2.1.1 G.2.2.2.2.2.1.2.1.2.1 hh ∈ am_ts
  ∧ (G.2.2.2.2.2.1.1.2.1.cls ≠ "java/lang/invoke/MethodHandle" ∧ G.2.2.2.2.2.1.1.2.1.cls ≠ "java/lang/invoke/VarHandle" ∧ (parseMethodDescriptor G.2.2.2.2.2.1.1.2.1.desc).map (fun d => d.parameters.length) = some G.2.2.2.2.2.1.2.1.2.2)
def am_charAt : MethodName := ⟨"java/lang/String", "charAt", "(I)C"⟩
/-- what a program must show of an instruction -/
def am_okI (cl : List vw_C) (G : am_G) (M : am_M) (i : am_I) : Prop := decode M.1.2.2 i.1 = .ok (i.2.2.1, i.2.1) ∧ match i.2.2.1 with
  | .aload _ | .iload _ | .lload _ | .istore _ | .lstore _ | .astore _ | .bipush _ => i.2.1 = 2
  | .iinc _ _ | .sipush _ | .goto _ => i.2.1 = 3
  | .ifCond _ off | .if_icmp _ off => i.2.1 = 3 ∧ 0 ≤ (i.1 : Int) + off
  | .tableswitch _ _ _ _ => True
  | .ldc k => i.2.1 = 2 ∧ ((i.2.2.2.1.2.1 = 0 ∧ Cond.constant M.1.2.1.cls k (Int32.ofInt i.2.2.2.2) ∈ am_ts) ∨ (i.2.2.2.1.2.1 ≠ 0 ∧ M.1.2.1.cls = "AirBed$Reader" ∧ ∃ tx, Cond.stringRef M.1.2.1.cls k tx ∈ lw_tbl))
  | .ldc2_w k => i.2.1 = 3 ∧ Cond.constantLong M.1.2.1.cls k (Int64.ofInt i.2.2.2.2) ∈ am_ts
  | .getfield idx => i.2.1 = 3 ∧ ∃ r, cl[i.2.2.2.1.1]? = some r ∧ i.2.2.2.1.2.1 < r.2.2 ∧ am_fl M.1.2.1.cls idx (r.2.1 i.2.2.2.1.2.1)
  | .putfield idx => i.2.1 = 3 ∧ ∃ r, cl[i.2.2.2.1.1]? = some r ∧ i.2.2.2.1.2.1 < r.2.2 ∧ (((r.2.1 i.2.2.2.1.2.1).2.2.2 = false ∧ am_fl M.1.2.1.cls idx (r.2.1 i.2.2.2.1.2.1)) ∨ ((r.2.1 i.2.2.2.1.2.1).2.2.2 = true ∧ Cond.fieldLink M.1.2.1.cls idx (r.2.1 i.2.2.2.1.2.1).1 (r.2.1 i.2.2.2.1.2.1).2.1 (r.2.1 i.2.2.2.1.2.1).2.2.1 ∈ am_ts ∧ M.1.2.1.name = "<init>" ∧ (r.2.1 i.2.2.2.1.2.1).1 = M.1.2.1.cls))
  | .newarray t => i.2.1 = 2 ∧ Cond.arrayClass (Op.newarray.typeOf t) ∈ am_ts ∧ (Op.newarray.typeOf t = .int ∨ Op.newarray.typeOf t = .boolean ∨ Op.newarray.typeOf t = .long)
  | .anewarray idx => i.2.1 = 3 ∧ ∃ r, cl[i.2.2.2.1.1]? = some r ∧ Cond.classLink M.1.2.1.cls idx r.1 ∈ am_ts ∧ Cond.arrayOver (.object r.1) ∈ am_tn
  | .new idx => i.2.1 = 3 ∧ ∃ r, cl[i.2.2.2.1.1]? = some r ∧ Cond.classLink M.1.2.1.cls idx r.1 ∈ am_ts
  | .invokespecial idx => i.2.1 = 3 ∧ ((i.2.2.2.1.2.2 = 0 ∧ Cond.methodLink M.1.2.1.cls idx Lib.objectInit ∈ am_ts ∧ Cond.instanceMethod Lib.objectInit ∈ am_ts ∧ Cond.code Lib.objectInit ⟨#[0xb1]⟩ 1 none ∈ am_ts) ∨ (i.2.2.2.1.2.2 ≠ 0 ∧ ∀ M', G.1 i.2.2.2.1.1 = some M' → am_okM G M' ∧ Cond.instanceMethod M'.1.2.1 ∈ am_ts ∧ (M'.1.2.1.name = "<init>" ∧ M'.2.1.2.1 = none) ∧ am_ml M.1.2.1.cls idx M'.1.2.1))
  | .invokevirtual idx => i.2.1 = 3 ∧ ((i.2.2.2.1.2.2 = 0 ∧ Cond.methodLink M.1.2.1.cls idx am_charAt ∈ am_ts) ∨ (i.2.2.2.1.2.2 ≠ 0 ∧ ∀ M', G.1 i.2.2.2.1.1 = some M' → am_okM G M' ∧ Cond.instanceMethod M'.1.2.1 ∈ am_ts ∧ Cond.selects M'.1.2.1.cls M'.1.2.1 M'.1.2.1 ∈ am_ts ∧ am_ml M.1.2.1.cls idx M'.1.2.1))
  | .invokestatic idx => i.2.1 = 3 ∧ ((i.2.2.2.1.2.2 = 0 ∧ ∃ hh, am_okL G hh ∧ Cond.methodLink M.1.2.1.cls idx G.2.2.2.2.2.1.1.2.1 ∈ am_ts) ∨ (i.2.2.2.1.2.2 = 1 ∧ Cond.methodLink M.1.2.1.cls idx Lib.Math.max.name ∈ am_ts ∧ Cond.static Lib.Math.max.name ∈ am_ts ∧ Cond.initialized "java/lang/Math" ∈ am_ts ∧ Cond.code Lib.Math.max.name Lib.Math.max.code 2 (some .int) ∈ am_ts)
      ∨ (i.2.2.2.1.2.2 = 2 ∧ Cond.methodLink M.1.2.1.cls idx Lib.Math.min.name ∈ am_ts ∧ Cond.static Lib.Math.min.name ∈ am_ts ∧ Cond.initialized "java/lang/Math" ∈ am_ts ∧ Cond.code Lib.Math.min.name Lib.Math.min.code 2 (some .int) ∈ am_ts)
      ∨ ((∃ k, i.2.2.2.1.2.2 = k + 3) ∧ ∀ M', G.1 i.2.2.2.1.1 = some M' → am_okM G M' ∧ Cond.static M'.1.2.1 ∈ am_ts ∧ ((M'.1.2.1.cls = M.1.2.1.cls ∧ Cond.methodLink M.1.2.1.cls idx M'.1.2.1 ∈ am_ts) ∨ ∃ host, Cond.methodLinkNest M.1.2.1.cls idx M'.1.2.1 host ∈ am_tn)))
  | _ => i.2.1 = 1
/-- the words' text: its constant is pushed, its signs are read -/
def am_TxA (p : Program) (l : Launch) (e : Env) (R : Room) (s : State) (m : MethodId) (args : Array Value) (below : List Frame) (meth : Method) (c : Code) (M : am_M) (x : Nat → Nat) : Prop :=
  ∀ (idx pc : Nat) (tx : String), decode M.1.2.2 pc = .ok (.ldc idx, 2) → M.1.2.1.cls = "AirBed$Reader" → Cond.stringRef M.1.2.1.cls idx tx ∈ lw_tbl → ∀ (Q : State → Prop) (H : Heap) (locs : List Loc) (L : Array Slot) (st : List Value) (nc ns : Nat),
    W p l e R s m args below meth c H locs nc ns Q (F0 m (pc + 2) L (.ref (x 1) :: st)) → W p l e R s m args below meth c H locs nc ns Q (F0 m pc L st)
def am_TxB (p : Program) (l : Launch) (e : Env) (R : Room) (s : State) (m : MethodId) (args : Array Value) (below : List Frame) (meth : Method) (c : Code) (M : am_M) (B : Nat) (x : Nat → Nat) (tx : Nat → Int32) : Prop :=
  ∀ (idx pc : Nat), decode M.1.2.2 pc = .ok (.invokevirtual idx, 3) → Cond.methodLink M.1.2.1.cls idx am_charAt ∈ am_ts → ∀ (Q : State → Prop) (H : Heap) (locs : List Loc) (L : Array Slot) (st : List Value) (nc ns : Nat) (j : Int32),
    8 ≤ R.frames → (st.map fun v => v.category).sum ≤ 8 → 200 ≤ R.locals → nc ≤ R.cells → ns ≤ R.slots → vp_in j 120 → L.size = M.2.1.1 → va_S (fun q => B ≤ q) s.heap H locs →
    (∀ (H1 : Heap) (locs1 : List Loc), (∀ q : Nat, H1[q]? = H[q]?) → va_S (fun q => B ≤ q) s.heap H1 locs1 → W p l e R s m args below meth c H1 locs1 nc ns Q (F0 m (pc + 3) L (.int (tx j.toNatClampNeg) :: st))) → W p l e R s m args below meth c H locs nc ns Q (F0 m pc L (.int j :: .ref (x 1) :: st))
def am_TxOK (l : Launch) (B : Nat) (x : Nat → Nat) (tx : Nat → Int32) (TX : State → Prop) : Prop :=
  ∀ (p : Program) (e : Env) (s : State) (m : MethodId) (args : Array Value) (below : List Frame) (meth : Method) (c : Code) (M : am_M), am_C p s m args meth c M → TX s → B ≤ s.heap.size → am_TxA p l e (am_rm M) s m args below meth c M x ∧ am_TxB p l e (am_rm M) s m args below meth c M B x tx
section AMR
variable {p : Program} {l : Launch} {e : Env} {R : Room} {s : State} {m : MethodId} {args : Array Value} {below : List Frame} {meth : Method} {c : Code} {D : va_G} {cl : List vw_C} {B : Nat} {x : Nat → Nat} {ex : Bool} {nL : Nat} {Q : State → Prop} {M M' : am_M} {f' : am_F}
variable {pc len : Nat} {ins : Instr} {an : Nat × Nat × Nat} {v0 : Int} {cs : List am_I} {ls : am_L} {st : List Value} {ks : List am_k} {h : am_H} {nc ns : Nat} {G : am_G} {rc : am_rec} {TX : State → Prop}
theorem am_s_ldcS {k : Nat} (hT : am_TxA p l e R s m args below meth c M x) (h0 : an.2.1 ≠ 0) (hcls : M.1.2.1.cls = "AirBed$Reader") {tx : String} (hw : Cond.stringRef M.1.2.1.cls k tx ∈ lw_tbl) (hd : decode M.1.2.2 pc = .ok (.ldc k, 2))
    (hone : am_one am_φ ex G rc M ((pc, 2, .ldc k, an, v0) :: cs, ls, st, ks, h, nc, ns) = some (.inl f')) (hW : am_Wf p l e R s m args below meth c D cl B x ex M.2.1.1 Q f') : am_Wf p l e R s m args below meth c D cl B x ex M.2.1.1 Q ((pc, 2, .ldc k, an, v0) :: cs, ls, st, ks, h, nc, ns) := by
  simp only [am_one] at hone
  intro H locs L j r hj hR hS hl
  cases hj
  exact hT k pc tx hd hcls hw Q H locs L _ nc ns (am_go_use hone hW H locs L hR hS hl)
theorem am_s_charAt {idx : Nat} (hT : am_TxB p l e R s m args below meth c M B x G.2.2.2.1) (hRm : R = am_rm M) (h0 : an.2.2 = 0) (hw : Cond.methodLink M.1.2.1.cls idx am_charAt ∈ am_ts) (hd : decode M.1.2.2 pc = .ok (.invokevirtual idx, 3))
    (hone : am_one am_φ ex G rc M ((pc, 3, .invokevirtual idx, an, v0) :: cs, ls, st, ks, h, nc, ns) = some (.inl f')) (hW : am_Wf p l e R s m args below meth c D cl B x ex M.2.1.1 Q f') : am_Wf p l e R s m args below meth c D cl B x ex M.2.1.1 Q ((pc, 3, .invokevirtual idx, an, v0) :: cs, ls, st, ks, h, nc, ns) := by
  simp only [am_one, h0] at hone
  split at hone
  · rename_i j st0
    unfold am_text at hone
    cases hcc : (Nat.ble 8 M.2.2.1.1 && Nat.ble (am_cat st0) 8 && Nat.ble 200 M.2.2.1.2.1 && Nat.ble nc M.2.2.1.2.2.1 && Nat.ble ns M.2.2.1.2.2.2) with
    | false => rw [hcc] at hone; cases hone
    | true =>
    rw [hcc, cond_true] at hone
    simp only [Bool.and_eq_true] at hcc
    obtain ⟨⟨⟨⟨c1, c2⟩, c3⟩, c4⟩, c5⟩ := hcc
    obtain ⟨hin, hk⟩ := am_ix_use hone
    intro H locs L i r hj hR hS hl
    cases hj
    subst hRm
    refine hT idx pc hd hw Q H locs L _ nc ns j (Nat.le_of_ble_eq_true c1) (by rw [am_cat_map]; exact Nat.le_of_ble_eq_true c2) (Nat.le_of_ble_eq_true c3) (Nat.le_of_ble_eq_true c4) (Nat.le_of_ble_eq_true c5) hin hl.1 hS (fun H1 locs1 hsame hS1 => ?_)
    obtain ⟨hK, dA, hP, hA⟩ := hR
    exact am_go_use hk hW H1 locs1 L ⟨hK, dA, hP.kept (fun k q _ => hsame q.1), hA⟩ hS1 hl
  · cases hone
theorem am_step {i : am_I} (C : am_C p s m args meth c M) (hG : am_okG cl G) (hRm : R = am_rm M) (hB : B ≤ s.heap.size) (hTm : am_TXm B TX) (hT : TX s) (hTA : am_TxA p l e R s m args below meth c M x) (hTB : am_TxB p l e R s m args below meth c M B x G.2.2.2.1) (hscr : am_scr G B x s)
    (hrec : ∀ (a : Nat) (M' : am_M) (as : List Value) (ks : List am_k) (h : am_H) (r : am_O), G.1 a = some M' → am_cat as ≤ M'.2.1.1 → rc a as ks h = some r → am_Met l D cl B x ex TX M' as ks h r)
    (hLk : ∀ (hh : List (Nat × Nat × Nat × Nat)), am_okL G hh → ∀ (as : List Value) (ks : List am_k) (h : am_H) (r : am_O), G.2.2.2.2.2.2 as ks h = some r → am_MetL l D cl B x ex TX G.2.2.2.2.2.1 hh as ks h r)
    (hi : am_okI cl G M i) (hone : am_one am_φ ex G rc M (i :: cs, ls, st, ks, h, nc, ns) = some (.inl f')) (hW : am_Wf p l e R s m args below meth c D cl B x ex M.2.1.1 Q f') : am_Wf p l e R s m args below meth c D cl B x ex M.2.1.1 Q (i :: cs, ls, st, ks, h, nc, ns) := by
  obtain ⟨pc, len, ins, an, v0⟩ := i
  obtain ⟨hd, hi⟩ := hi
  dsimp only at hd hi
  cases ins with
  | aload k => dsimp only at hi; subst hi; exact am_s_aload C hd hone hW
  | iload k => dsimp only at hi; subst hi; exact am_s_iload C hd hone hW
  | lload k => dsimp only at hi; subst hi; exact am_s_lload C hd hone hW
  | istore k => dsimp only at hi; subst hi; exact am_s_istore C hd hone hW
  | lstore k => dsimp only at hi; subst hi; exact am_s_lstore C hd hone hW
  | astore k => dsimp only at hi; subst hi; exact am_s_astore C hd hone hW
  | bipush k => dsimp only at hi; subst hi; exact am_s_bipush C hd hone hW
  | iinc k n => dsimp only at hi; subst hi; exact am_s_iinc C hd hone hW
  | sipush k => dsimp only at hi; subst hi; exact am_s_sipush C hd hone hW
  | goto k => dsimp only at hi; subst hi; exact am_s_goto C hd hone hW
  | ifCond cn off =>
    obtain ⟨hi, hof⟩ := hi
    subst hi
    cases cn with
    | eq => exact am_s_if_eq C hd hof hone hW
    | ne => exact am_s_if_ne C hd hof hone hW
    | lt => exact am_s_if_lt C hd hof hone hW
    | ge => exact am_s_if_ge C hd hof hone hW
    | gt => exact am_s_if_gt C hd hof hone hW
    | le => exact am_s_if_le C hd hof hone hW
  | if_icmp cn off =>
    obtain ⟨hi, hof⟩ := hi
    subst hi
    cases cn with
    | eq => exact am_s_icmp_eq C hd hof hone hW
    | ne => exact am_s_icmp_ne C hd hof hone hW
    | lt => exact am_s_icmp_lt C hd hof hone hW
    | ge => exact am_s_icmp_ge C hd hof hone hW
    | gt => exact am_s_icmp_gt C hd hof hone hW
    | le => exact am_s_icmp_le C hd hof hone hW
  | tableswitch d lo hh offs => exact am_s_tsw C hd hone hW
  | ldc k =>
    obtain ⟨hi, hc⟩ := hi
    subst hi
    rcases hc with ⟨h0, hw⟩ | ⟨h0, hcls, tx, hw⟩
    · exact am_s_ldc C hd h0 hw hone hW
    · exact am_s_ldcS hTA h0 hcls hw hd hone hW
  | ldc2_w k =>
    obtain ⟨hi, hw⟩ := hi
    subst hi
    exact am_s_ldc2 C hd hw hone hW
  | getfield k =>
    obtain ⟨hi, r, h1, h2, h3⟩ := hi
    subst hi
    exact am_s_getfield C hG hd h1 h2 h3 hone hW
  | putfield k =>
    obtain ⟨hi, r, h1, h2, h3⟩ := hi
    subst hi
    exact am_s_putfield C hG hd h1 h2 h3 hone hW
  | newarray t =>
    obtain ⟨hi, h1, h2⟩ := hi
    subst hi
    exact am_s_newarray C hRm hB h1 h2 hd hone hW
  | anewarray t =>
    obtain ⟨hi, r, h1, h2, h3⟩ := hi
    subst hi
    exact am_s_anewarray C hG hRm hB h1 h2 h3 hd hone hW
  | new t =>
    obtain ⟨hi, r, h1, h2⟩ := hi
    subst hi
    exact am_s_new C hG hRm hB h1 h2 hd hone hW
  | invokespecial k =>
    obtain ⟨hi, hc⟩ := hi
    subst hi
    rcases hc with ⟨h0, h1, h2, h3⟩ | ⟨h0, h1⟩
    · exact am_s_objInit C hRm h0 h1 h2 h3 hd hone hW
    · exact am_s_special C hG hRm hB hTm hT h0 hd h1 hrec hone hW
  | invokevirtual k =>
    obtain ⟨hi, hc⟩ := hi
    subst hi
    rcases hc with ⟨h0, h1⟩ | ⟨h0, h1⟩
    · exact am_s_charAt hTB hRm h0 h1 hd hone hW
    · exact am_s_virtual C hG hRm hB hTm hT h0 hd h1 hrec hone hW
  | invokestatic k =>
    obtain ⟨hi, hc⟩ := hi
    subst hi
    rcases hc with ⟨h0, hh, h1, h2⟩ | ⟨h0, h1, h2, h3, h4⟩ | ⟨h0, h1, h2, h3, h4⟩ | ⟨⟨k0, h0⟩, h1⟩
    · exact am_s_look C hRm hB hTm hT h0 hd h2 h1.1 h1.2.1 h1.2.2.1 h1.2.2.2 (hLk hh h1) hone hW
    · exact am_s_max C hRm h0 h1 h2 h3 h4 hd hone hW
    · exact am_s_min C hRm h0 h1 h2 h3 h4 hd hone hW
    · exact am_s_static C hRm hB hTm hT h0 hd h1 hrec hone hW
  | aload_n k => dsimp only at hi; subst hi; exact am_s_aload_n C hd hone hW
  | iload_n k => dsimp only at hi; subst hi; exact am_s_iload_n C hd hone hW
  | lload_n k => dsimp only at hi; subst hi; exact am_s_lload_n C hd hone hW
  | istore_n k => dsimp only at hi; subst hi; exact am_s_istore_n C hd hone hW
  | lstore_n k => dsimp only at hi; subst hi; exact am_s_lstore_n C hd hone hW
  | astore_n k => dsimp only at hi; subst hi; exact am_s_astore_n C hd hone hW
  | iconst k => dsimp only at hi; subst hi; exact am_s_iconst C hd hone hW
  | lconst k => dsimp only at hi; subst hi; exact am_s_lconst C hd hone hW
  | dup => dsimp only at hi; subst hi; exact am_s_dup C hd hone hW
  | dup2 => dsimp only at hi; subst hi; exact am_s_dup2 C hd hone hW
  | pop => dsimp only at hi; subst hi; exact am_s_pop C hd hone hW
  | pop2 => dsimp only at hi; subst hi; exact am_s_pop2 C hd hone hW
  | iadd => dsimp only at hi; subst hi; exact am_s_iadd C hd hone hW
  | isub => dsimp only at hi; subst hi; exact am_s_isub C hd hone hW
  | imul => dsimp only at hi; subst hi; exact am_s_imul C hd hone hW
  | iand => dsimp only at hi; subst hi; exact am_s_iand C hd hone hW
  | ior => dsimp only at hi; subst hi; exact am_s_ior C hd hone hW
  | ishl => dsimp only at hi; subst hi; exact am_s_ishl C hd hone hW
  | ishr => dsimp only at hi; subst hi; exact am_s_ishr C hd hone hW
  | iushr => dsimp only at hi; subst hi; exact am_s_iushr C hd hone hW
  | idiv => dsimp only at hi; subst hi; exact am_s_idiv C hd hone hW
  | irem => dsimp only at hi; subst hi; exact am_s_irem C hd hone hW
  | ladd => dsimp only at hi; subst hi; exact am_s_ladd C hd hone hW
  | lsub => dsimp only at hi; subst hi; exact am_s_lsub C hd hone hW
  | lmul => dsimp only at hi; subst hi; exact am_s_lmul C hd hone hW
  | land => dsimp only at hi; subst hi; exact am_s_land C hd hone hW
  | ldiv => dsimp only at hi; subst hi; exact am_s_ldiv C hd hone hW
  | lrem => dsimp only at hi; subst hi; exact am_s_lrem C hd hone hW
  | lneg => dsimp only at hi; subst hi; exact am_s_lneg C hd hone hW
  | lcmp => dsimp only at hi; subst hi; exact am_s_lcmp C hd hone hW
  | i2l => dsimp only at hi; subst hi; exact am_s_i2l C hd hone hW
  | l2i => dsimp only at hi; subst hi; exact am_s_l2i C hd hone hW
  | iaload => dsimp only at hi; subst hi; exact am_s_iaload C hscr hd hone hW
  | baload => dsimp only at hi; subst hi; exact am_s_baload C hd hone hW
  | laload => dsimp only at hi; subst hi; exact am_s_laload C hd hone hW
  | aaload => dsimp only at hi; subst hi; exact am_s_aaload C hd hone hW
  | iastore => dsimp only at hi; subst hi; exact am_s_iastore C hd hone hW
  | bastore => dsimp only at hi; subst hi; exact am_s_bastore C hd hone hW
  | lastore => dsimp only at hi; subst hi; exact am_s_lastore C hd hone hW
  | aastore => dsimp only at hi; subst hi; exact am_s_aastore C hG hd hone hW
  | arraylength => dsimp only at hi; subst hi; exact am_s_arraylength C hscr hd hone hW
  | _ => simp [am_one] at hone
/-- the end of a method -/
theorem am_fin {i : am_I} {r : am_O} (C : am_C p s m args meth c M) (hi : am_okI cl G M i) (hend : am_end M (i :: cs, ls, st, ks, h, nc, ns) = some r) :
    am_Wf p l e R s m args below meth c D cl B x ex M.2.1.1 (MQ below (am_Qc D cl B x ex r) args s M.2.2.1.2.2.1 M.2.2.1.2.2.2 (fun q => B ≤ q)) (i :: cs, ls, st, ks, h, nc, ns) := by
  obtain ⟨pc, len, ins, an, v0⟩ := i
  obtain ⟨hx, hb, hml, hr, hown, hts, hlk, hnm, htn⟩ := C
  obtain ⟨hd, hi⟩ := hi
  dsimp only at hd hi
  have key : ∀ (v : Option Value), am_ret M v ks h nc ns = some r → r = (v, ks, h) ∧ nc ≤ M.2.2.1.2.2.1 ∧ ns ≤ M.2.2.1.2.2.2 := by
    intro v hv
    unfold am_ret at hv
    cases h2 : (Nat.ble nc M.2.2.1.2.2.1 && Nat.ble ns M.2.2.1.2.2.2) with
    | false => rw [h2] at hv; cases hv
    | true =>
      rw [h2, cond_true] at hv
      simp only [Bool.and_eq_true] at h2
      exact ⟨(Option.some.inj hv).symm, Nat.le_of_ble_eq_true h2.1, Nat.le_of_ble_eq_true h2.2⟩
  have post : ∀ (H : Heap) (locs : List Loc) (t : State), am_Rel D cl B x ex ks h (s.heap.size + nc) s H → t.heap = H → s.WarmedH t.vm → am_Rel D cl B x ex ks h (B + ks.length) t t.heap := by
    intro H locs t hR ht hWm
    refine am_Rel.moved hWm.alike ?_
    rw [ht]
    obtain ⟨hK, dA, hP, hA, hz⟩ := hR
    exact ⟨hK, dA, hP, hA, fun _ => rfl⟩
  cases ins with
  | ireturn =>
    dsimp only at hi
    subst hi
    simp only [am_end] at hend
    split at hend
    · rename_i v
      split at hend
      · rename_i ty hty
        cases h1 : am_fit ty (.int v) with
        | false => rw [h1] at hend; cases hend
        | true =>
          rw [h1, cond_true] at hend
          obtain ⟨rfl, k1, k2⟩ := key _ hend
          intro H locs L j r' hj hR hS hl
          cases hj
          refine W.widen k1 k2 ?_
          exact W.zret (v := v) hx hb (hr.trans hty) (am_fit_ok (B := 0) (x := fun _ => 0) h1).1 (fun t ht hWm => ⟨rfl, post H locs t hR ht hWm, hS.F ht⟩) hS.2.2 hd
      · cases hend
    · cases hend
  | lreturn =>
    dsimp only at hi
    subst hi
    simp only [am_end] at hend
    split at hend
    · rename_i v
      split at hend
      · rename_i hty
        obtain ⟨rfl, k1, k2⟩ := key _ hend
        intro H locs L j r' hj hR hS hl
        cases hj
        refine W.widen k1 k2 ?_
        exact W.lret (v := v) hx hb (hr.trans hty) (fun t ht hWm => ⟨rfl, post H locs t hR ht hWm, hS.F ht⟩) hS.2.2 hd
      · cases hend
    · cases hend
  | return_ =>
    dsimp only at hi
    subst hi
    simp only [am_end] at hend
    split at hend
    · split at hend
      · rename_i hty
        obtain ⟨rfl, k1, k2⟩ := key _ hend
        intro H locs L j r' hj hR hS hl
        cases hj
        refine W.widen k1 k2 ?_
        exact W.vret hx hb (hr.trans hty) (fun t ht hWm => ⟨rfl, post H locs t hR ht hWm, hS.F ht⟩) hS.2.2 hd
      · cases hend
    · cases hend
  | _ => simp [am_end] at hend
/-- what a program must show: of every method -/
def am_okP (cl : List vw_C) (G : am_G) : Prop := ∀ (a : Nat) (M : am_M), G.1 a = some M → am_okM G M ∧ (∀ i ∈ M.2.2.2, am_okI cl G M i) ∧ (M.2.2.2.head?.map (fun i => i.1)) = some 0
theorem am_lv_args (B : Nat) (x : Nat → Nat) : ∀ (as : List Value) (k : Nat), lv_args k (as.map (am_c B x)) = am_ls B x (lv_args k as)
  | [], _ => rfl
  | v :: as, k => by
    show (k, am_c B x v) :: lv_args (if (am_c B x v).category = 2 then k + 2 else k + 1) (as.map (am_c B x)) = (k, am_c B x v) :: am_ls B x (lv_args (if v.category = 2 then k + 2 else k + 1) as)
    rw [am_c_cat, am_lv_args B x as]
theorem am_lg_len : ∀ (as : List Value), (lg_sl as).length = am_cat as
  | [] => rfl
  | v :: as => by
    have ih := am_lg_len as
    have h1 : lg_sl (v :: as) = (if v.category = 2 then [Slot.val v, Slot.second] else [Slot.val v]) ++ lg_sl as := rfl
    have h2 : am_cat (v :: as) = v.category + am_cat as := by simp [am_cat]
    rw [h1, List.length_append, ih, h2]
    cases v <;> rfl
theorem am_seek_sub {t : Int} : ∀ {cd : List am_I} {i : am_I}, i ∈ am_seek cd t → i ∈ cd
  | [], _, h => by cases h
  | j :: cd, i, h => by
    unfold am_seek at h
    split at h
    · exact h
    · exact List.mem_cons_of_mem _ (am_seek_sub h)
end AMR
