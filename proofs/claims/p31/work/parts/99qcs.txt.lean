/-! ===== THE WORDS' TEXT: charAt of a constant ===== -/
def am_JQ (v : Option Value) : Array Value → State → Outcome → State → Prop := fun _ st oc t => oc = .returned v ∧ t.heap = st.heap
def am_JP (B : Nat) (TX : State → Prop) (U : State) : Prop := B ≤ U.heap.size ∧ TX U
abbrev am_JMet (l : Launch) (B : Nat) (TX : State → Prop) (M : am_M) (as : List Value) (v : Option Value) : Prop := Met l M.1.2.1 (am_ws M) (am_rm M) (va_Pc as (am_JP B TX)) (am_JQ v) 0 0 (fun _ => False)
def am_J3 : am_M := ((0, ⟨"jdk/internal/util/Preconditions", "checkIndex", "(IILjava/util/function/BiFunction;)I"⟩, prog_29_method_11_code), (3, some .int, 3), (0, 0, 0, 0), [])
def am_J2 : am_M := ((0, ⟨"java/lang/String", "checkIndex", "(II)V"⟩, prog_22_method_155_code), (2, none, 2), (1, 22, 0, 0), [])
def am_J1 : am_M := ((0, ⟨"java/lang/StringLatin1", "charAt", "([BI)C"⟩, prog_23_method_2_code), (2, some .char, 2), (2, 43, 0, 0), [])
def am_JI : am_M := ((0, ⟨"java/lang/String", "isLatin1", "()Z"⟩, prog_22_method_154_code), (1, some .boolean, 0), (0, 0, 0, 0), [])
def am_JC : am_M := ((0, am_charAt, prog_22_method_56_code), (2, some .char, 1), (3, 64, 0, 0), [])
/-- the text's cells, and the two statics -/
def am_TS (B K V : Nat) (U : State) : Prop := va_O "java/lang/String" K (fun q => B ≤ q) U U.heap ∧ va_OF "java/lang/String" "coder" "B" (.int 0) K (fun q => B ≤ q) U U.heap ∧ va_OF "java/lang/String" "value" "[B" (.ref V) K (fun q => B ≤ q) U U.heap
  ∧ va_T .byte V 120 (fun j => .int (am_txt j)) (fun q => B ≤ q) U U.heap ∧ va_Z "java/lang/String" "COMPACT_STRINGS" "Z" (.int 1) (fun q => B ≤ q) U U.heap ∧ va_Zq "jdk/internal/util/Preconditions" "SIOOBE_FORMATTER" "Ljava/util/function/BiFunction;" (fun q => B ≤ q) U U.heap
theorem am_TS_moved {B K V : Nat} {U U' : State} (hvm : U.vm.Alike U'.vm) (hh : ∀ q, q < B → U'.heap[q]? = U.heap[q]?) (h : am_TS B K V U) : am_TS B K V U' := by
  obtain ⟨h1, h2, h3, h4, h5, h6⟩ := h
  have hk : ∀ a : Nat, a < U.heap.size → ¬ (fun q => B ≤ q) a → U'.heap[a]? = U.heap[a]? := fun a _ h => hh a (Nat.not_le.mp h)
  exact ⟨(va_O.moved hvm h1).kept hk, (va_OF.moved hvm h2).kept hk, (va_OF.moved hvm h3).kept hk, (va_T.moved hvm h4).kept hk, (va_Z.moved hvm h5).kept hk, (va_Zq.moved hvm h6).kept hk⟩
section AMJ
variable {p : Program} {l : Launch} {e : Env} {R : Room} {s : State} {m : MethodId} {args : Array Value} {below : List Frame} {meth : Method} {c : Code} {H : Heap} {locs : List Loc} {nc ns : Nat} {Q : State → Prop} {B K V : Nat} {TX : State → Prop}
theorem am_jblind {as : List Value} (hTm : am_TXm B TX) : FrameBlind (va_Pc as (am_JP B TX)) := by
  intro a U g mk q
  obtain ⟨q0, qB, qT⟩ := q
  exact ⟨q0, qB, hTm U (U.calling g mk a) (Or.inl rfl) (fun _ _ => rfl) qT⟩
theorem am_jof {M : am_M} {as : List Value} {v : Option Value} (hplain : plainName M.1.2.1.cls = true) (hcat : am_cat as ≤ M.2.1.1)
    (body : ∀ (p : Program) (e : Env) (s : State) (m : MethodId) (args : Array Value) (below : List Frame) (meth : Method) (c : Code) (L : Array Slot), p.tables.exec = Jvm.exec → c.code = M.1.2.2 → c.maxLocals = M.2.1.1 → meth.sig.returnType = M.2.1.2.1 → s.vm.findClass M.1.2.1.cls = some m.cls → (∀ w ∈ am_ts, w.before args s = true) → meth.locks = false → am_JP B TX s → lv_has L M.2.1.1 (lv_args 0 as) →
      W p l e (am_rm M) s m args below meth c s.heap [] 0 0 (MQ below (am_JQ v) args s 0 0 (fun _ => False)) (F0 m 0 L [])) : am_JMet l B TX M as v := by
  refine Met.ofW (cc := M.1.2.2) (maxL := M.2.1.1) (ret := M.2.1.2.1) hplain rfl ?_
  intro p e s m args below meth c s₁ Bd hml hv
  obtain ⟨rfl, hP⟩ := hv
  have hts := atoms_spec (ws := am_ws M) Bd.pre
  have hl := lv_entry as (n := M.2.1.1) (by rw [am_lg_len]; exact hcat)
  rw [lg_entry_eq]
  exact body p e s m _ below meth c _ Bd.exec Bd.bytes hml Bd.returns (findClass_of_methodNamed Bd.named) (fun w hw => hts w (List.mem_cons_of_mem _ hw)) Bd.notSynchronized hP hl
theorem am_jback {a : Array Value} {L : Array Slot} {st0 rest : List Value} {v : Option Value} {pc : Nat} (hr : va_Run p l e R s m args below meth c H locs nc ns 0 0 (F0 m pc L st0) rest (am_JQ v a) (fun _ => False))
    (kk : W p l e R s m args below meth c H locs nc ns Q (F0 m (pc + 3) L (v.toList ++ rest))) : W p l e R s m args below meth c H locs nc ns Q (F0 m pc L st0) := by
  intro T hT X
  obtain ⟨w, st₀, t, T', L', h0, X', hL, e1, e2, ⟨hv, hh⟩, st⟩ := hr T hT X
  cases hv
  have hnil : L' = [] := List.eq_nil_iff_forall_not_mem.mpr (fun q hq => hL q hq)
  subst hnil
  rw [List.append_nil] at X'
  obtain ⟨t2, a1, b1⟩ := kk T' (by rw [e1, hh, h0]) X'
  exact ⟨t2, st t2 a1, b1⟩
theorem am_jpre (hTm : am_TXm B TX) (hP : am_JP B TX s) (hS : va_S (fun q => B ≤ q) s.heap H locs) : ∀ U : State, U.heap = H → s.WarmedH U.vm → am_JP B TX U := fun U hU hW =>
  ⟨by rw [hU]; exact Nat.le_trans hP.1 hS.1, hTm s U (Or.inr hW) (fun q hq => by rw [hU]; exact hS.2.1 q (Nat.lt_of_lt_of_le hq hP.1) (Nat.not_le.mpr hq)) hP.2⟩
theorem am_jS {own : String} {cc : ByteArray} {nL idx pc : Nat} {M' : am_M} {As rest st0 : List Value} {L : Array Slot} {v : Option Value} (hx : p.tables.exec = Jvm.exec) (hb : c.code = cc) (hml : c.maxLocals = nL) (hown : s.vm.findClass own = some m.cls) (hts : ∀ w ∈ am_ts, w.before args s = true)
    (hmet : am_JMet l B TX M' As v) (hTm : am_TXm B TX) (hP : am_JP B TX s) (hS : va_S (fun q => B ≤ q) s.heap H locs) (hz : M'.2.2.1.2.2 = (0, 0)) (w1 : Cond.methodLink own idx M'.1.2.1 ∈ am_ts) (w2 : Cond.static M'.1.2.1 ∈ am_ts) (w3 : Cond.initialized M'.1.2.1.cls ∈ am_ts) (w4 : Cond.code M'.1.2.1 M'.1.2.2 M'.2.1.1 M'.2.1.2.1 ∈ am_ts)
    (w5 : M'.1.2.1.cls ≠ "java/lang/invoke/MethodHandle" ∧ M'.1.2.1.cls ≠ "java/lang/invoke/VarHandle" ∧ (parseMethodDescriptor M'.1.2.1.desc).map (fun d => d.parameters.length) = some M'.2.1.2.2) (hR : (am_rm M').frames + 1 ≤ R.frames ∧ 8 + (M'.2.1.1 + 11) + (am_rm M').locals ≤ R.locals) (hc : nc ≤ R.cells ∧ ns ≤ R.slots)
    (hn : As.length = M'.2.1.2.2) (hsz : L.size = nL) (hstk : st0 = As.reverse ++ rest) (h8 : (rest.map fun v => v.category).sum ≤ 8) (hd : decode cc pc = .ok (.invokestatic idx, 3)) (kk : W p l e R s m args below meth c H locs nc ns Q (F0 m (pc + 3) L (v.toList ++ rest))) : W p l e R s m args below meth c H locs nc ns Q (F0 m pc L st0) := by
  refine am_jback (va_runS (own := own) (Ts := am_ts) (cc := cc) (nL := nL) (mc := 0) (ms := 0) ⟨hx, hb, hml, hown, hts⟩ hmet (va_cwS M'.2.1.2.2 hts (am_good (fun w hw => ?_)) rfl (by show M'.2.2.1.2.2.1 = 0; rw [hz]) (by show M'.2.2.1.2.2.2 = 0; rw [hz]) w5 hR) ⟨am_jblind hTm, fun U hU hW => ⟨rfl, am_jpre hTm hP hS U hU hW⟩⟩ rfl hn hsz hstk (lv_room h8) hd hc) kk
  simp only [va_wsS, am_ws, List.mem_append, List.mem_cons, List.not_mem_nil, or_false] at hw
  rcases hw with (rfl | rfl | rfl) | rfl | hw
  · exact w1
  · exact w2
  · exact w3
  · exact w4
  · exact hw
theorem am_jV {own : String} {cc : ByteArray} {nL idx pc b : Nat} {M' : am_M} {As rest st0 : List Value} {L : Array Slot} {v : Option Value} (hx : p.tables.exec = Jvm.exec) (hb : c.code = cc) (hml : c.maxLocals = nL) (hown : s.vm.findClass own = some m.cls) (hts : ∀ w ∈ am_ts, w.before args s = true)
    (hmet : am_JMet l B TX M' (.ref b :: As) v) (hTm : am_TXm B TX) (hP : am_JP B TX s) (hS : va_S (fun q => B ≤ q) s.heap H locs) (hz : M'.2.2.1.2.2 = (0, 0)) (w1 : Cond.methodLink own idx M'.1.2.1 ∈ am_ts) (w2 : Cond.instanceMethod M'.1.2.1 ∈ am_ts) (w6 : Cond.selects M'.1.2.1.cls M'.1.2.1 M'.1.2.1 ∈ am_ts) (w3 : Cond.initialized M'.1.2.1.cls ∈ am_ts) (w4 : Cond.code M'.1.2.1 M'.1.2.2 M'.2.1.1 M'.2.1.2.1 ∈ am_ts)
    (w5 : M'.1.2.1.cls ≠ "java/lang/invoke/MethodHandle" ∧ M'.1.2.1.cls ≠ "java/lang/invoke/VarHandle" ∧ (parseMethodDescriptor M'.1.2.1.desc).map (fun d => d.parameters.length) = some M'.2.1.2.2) (hR : (am_rm M').frames + 1 ≤ R.frames ∧ 8 + (M'.2.1.1 + 11) + (am_rm M').locals ≤ R.locals) (hc : nc ≤ R.cells ∧ ns ≤ R.slots)
    (hrc : ∃ cell : Cell, H[b]? = some cell ∧ cell.vm.isStatics = false ∧ s.vm.findClass M'.1.2.1.cls = some cell.cls)
    (hn : As.length = M'.2.1.2.2) (hsz : L.size = nL) (hstk : st0 = As.reverse ++ .ref b :: rest) (h8 : (rest.map fun v => v.category).sum ≤ 8) (hd : decode cc pc = .ok (.invokevirtual idx, 3)) (kk : W p l e R s m args below meth c H locs nc ns Q (F0 m (pc + 3) L (v.toList ++ rest))) : W p l e R s m args below meth c H locs nc ns Q (F0 m pc L st0) := by
  refine am_jback (va_runV (own := own) (C := M'.1.2.1.cls) (Ts := am_ts) (cc := cc) (nL := nL) (mc := 0) (ms := 0) ⟨hx, hb, hml, hown, hts⟩ hmet (cwV M'.2.1.2.2 hts (am_good (fun w hw => ?_)) rfl (by show M'.2.2.1.2.2.1 = 0; rw [hz]) (by show M'.2.2.1.2.2.2 = 0; rw [hz]) ⟨rfl, w5⟩ hR) ⟨am_jblind hTm, hrc, fun U hU hW => ⟨rfl, am_jpre hTm hP hS U hU hW⟩⟩ rfl hn hsz hstk (lv_room h8) hd hc) kk
  simp only [wsV, am_ws, List.mem_append, List.mem_cons, List.not_mem_nil, or_false] at hw
  rcases hw with (rfl | rfl | rfl | rfl) | rfl | hw
  · exact w1
  · exact w2
  · exact w6
  · exact w3
  · exact w4
  · exact hw
theorem am_J3_met {i n : Int32} {v : Value} (hv : v.category = 1) (h0 : ¬ i < 0) (h1 : i < n) : am_JMet l B TX am_J3 [.int i, .int n, v] (some (.int i)) := by
  refine am_jof rfl (by show Value.category (.int i) + (Value.category (.int n) + (v.category + 0)) ≤ 3; rw [hv]; exact Nat.le_of_ble_eq_true rfl) ?_
  intro p e s m args below meth c L hx hb hml hr hown hts hlk hP hl
  have l0 : L[0]? = some (.val (.int i)) := lv_at hl 0 rfl
  have l1 : L[1]? = some (.val (.int n)) := lv_at hl 1 rfl
  refine lv_iload_n hx hb (by decide +kernel : decode am_J3.1.2.2 0 = .ok (.iload_n 0, 1)) rfl l0 ?_
  refine lv_if_lt (tgt := 9) hx hb (by decide +kernel : decode am_J3.1.2.2 1 = .ok (.ifCond .lt 8, 3)) rfl (fun h => absurd h h0) (fun _ => ?_)
  refine lv_iload_n hx hb (by decide +kernel : decode am_J3.1.2.2 4 = .ok (.iload_n 0, 1)) rfl l0 ?_
  refine lv_iload_n hx hb (by decide +kernel : decode am_J3.1.2.2 5 = .ok (.iload_n 1, 1)) rfl l1 ?_
  refine lv_icmp_lt (tgt := 16) hx hb (by decide +kernel : decode am_J3.1.2.2 6 = .ok (.if_icmp .lt 10, 3)) rfl (fun _ => ?_) (fun h => absurd h1 h)
  refine lv_iload_n hx hb (by decide +kernel : decode am_J3.1.2.2 16 = .ok (.iload_n 0, 1)) rfl l0 ?_
  exact W.iret hx hb hr (fun t ht _ => ⟨rfl, ht⟩) (fun _ h => by cases h) (by decide +kernel : decode am_J3.1.2.2 17 = .ok (.ireturn, 1))
theorem am_J2_met (hTm : am_TXm B TX) (hZ : ∀ U, TX U → am_TS B K V U) {i n : Int32} (h0 : ¬ i < 0) (h1 : i < n) : am_JMet l B TX am_J2 [.int i, .int n] none := by
  refine am_jof rfl (by simp [am_cat, Value.category, am_J2]) ?_
  intro p e s m args below meth c L hx hb hml hr hown hts hlk hP hl
  have l0 : L[0]? = some (.val (.int i)) := lv_at hl 0 rfl
  have l1 : L[1]? = some (.val (.int n)) := lv_at hl 1 rfl
  have wf : Cond.fieldLink "java/lang/String" 1053 "jdk/internal/util/Preconditions" "SIOOBE_FORMATTER" "Ljava/util/function/BiFunction;" ∈ am_ts := am_w_ok (i := 382) (by decide +kernel)
  have key : ∀ v : Value, v.category = 1 → va_Z "jdk/internal/util/Preconditions" "SIOOBE_FORMATTER" "Ljava/util/function/BiFunction;" v (fun q => B ≤ q) s s.heap → W p l e (am_rm am_J2) s m args below meth c s.heap [] 0 0 (MQ below (am_JQ none) args s 0 0 (fun _ => False)) (F0 m 0 L []) := by
    intro v hv hz
    refine lv_iload_n hx hb (by decide +kernel : decode am_J2.1.2.2 0 = .ok (.iload_n 0, 1)) rfl l0 ?_
    refine lv_iload_n hx hb (by decide +kernel : decode am_J2.1.2.2 1 = .ok (.iload_n 1, 1)) rfl l1 ?_
    refine va_gets hx hb hz va_S.rf hown (hts _ wf) (fun _ h => h) (by decide +kernel : decode am_J2.1.2.2 2 = .ok (.getstatic 1053, 3)) ?_
    refine am_jS (M' := am_J3) (As := [.int i, .int n, v]) (rest := []) (own := am_J2.1.2.1.cls) (nL := 2) hx hb hml hown hts (am_J3_met hv h0 h1) hTm hP va_S.rf rfl (am_w_ok (i := 384) (by decide +kernel)) (am_w_ok (i := 385) (by decide +kernel)) (am_w_ok (i := 125) (by decide +kernel)) (am_w_ok (i := 386) (by decide +kernel)) (by decide +kernel) (by decide) (by decide) rfl hl.1 rfl (by decide) (by decide +kernel : decode am_J2.1.2.2 5 = .ok (.invokestatic 1059, 3)) ?_
    refine lv_pop hx hb (by decide +kernel : decode am_J2.1.2.2 8 = .ok (.pop, 1)) rfl ?_
    exact W.vret hx hb hr (fun t ht _ => ⟨rfl, ht⟩) (fun _ h => by cases h) (by decide +kernel : decode am_J2.1.2.2 9 = .ok (.return_, 1))
  rcases (hZ s hP.2).2.2.2.2.2 with hz | ⟨t, hz⟩
  · exact key _ rfl hz
  · exact key _ rfl hz
theorem am_txt_all : (List.range 120).all (fun q => decide (((am_txt q &&& 255).toUInt32 % 65536).toInt32 = am_txt q) && decide (narrow .char (.int (am_txt q)) = .int (am_txt q))) = true := by decide +kernel
theorem am_txt_ok {q : Nat} (h : q < 120) : ((am_txt q &&& 255).toUInt32 % 65536).toInt32 = am_txt q ∧ narrow .char (.int (am_txt q)) = .int (am_txt q) := by
  have := List.all_eq_true.mp am_txt_all q (List.mem_range.mpr h)
  rw [Bool.and_eq_true] at this
  exact ⟨of_decide_eq_true this.1, of_decide_eq_true this.2⟩
theorem am_J1_met (hTm : am_TXm B TX) (hZ : ∀ U, TX U → am_TS B K V U) {j : Int32} (hj : vp_in j 120) : am_JMet l B TX am_J1 [.ref V, .int j] (some (.int (am_txt j.toNatClampNeg))) := by
  refine am_jof rfl (by simp [am_cat, Value.category, am_J1]) ?_
  intro p e s m args below meth c L hx hb hml hr hown hts hlk hP hl
  have l0 : L[0]? = some (.val (.ref V)) := lv_at hl 0 rfl
  have l1 : L[1]? = some (.val (.int j)) := lv_at hl 1 rfl
  have hT := (hZ s hP.2).2.2.2.1
  have hlt : j.toNatClampNeg < 120 := Nat.not_le.mp fun q => hj (Or.inr q)
  have h0 : ¬ j < 0 := fun q => hj (Or.inl q)
  have h1 : j < 120 := by
    obtain ⟨n, hn, rfl⟩ := vp_in_of hj (by decide)
    exact nI_lt (b := 120) hn (by decide)
  refine lv_iload_n hx hb (by decide +kernel : decode am_J1.1.2.2 0 = .ok (.iload_n 1, 1)) rfl l1 ?_
  refine lv_aload_n hx hb (by decide +kernel : decode am_J1.1.2.2 1 = .ok (.aload_n 0, 1)) rfl l0 ?_
  refine va_tlen (v := 120) hx hb hT va_S.rf (by decide) (by decide +kernel : decode am_J1.1.2.2 2 = .ok (.arraylength, 1)) ?_
  refine am_jS (M' := am_J2) (As := [.int j, .int 120]) (rest := []) (own := am_J1.1.2.1.cls) (nL := 2) hx hb hml hown hts (am_J2_met hTm hZ h0 h1) hTm hP va_S.rf rfl (am_w_ok (i := 379) (by decide +kernel)) (am_w_ok (i := 380) (by decide +kernel)) (am_w_ok (i := 123) (by decide +kernel)) (am_w_ok (i := 381) (by decide +kernel)) (by decide +kernel) (by decide) (by decide) rfl hl.1 rfl (by decide) (by decide +kernel : decode am_J1.1.2.2 3 = .ok (.invokestatic 9, 3)) ?_
  refine lv_aload_n hx hb (by decide +kernel : decode am_J1.1.2.2 6 = .ok (.aload_n 0, 1)) rfl l0 ?_
  refine lv_iload_n hx hb (by decide +kernel : decode am_J1.1.2.2 7 = .ok (.iload_n 1, 1)) rfl l1 ?_
  refine va_tb hx hb hT va_S.rf hj rfl (by decide +kernel : decode am_J1.1.2.2 8 = .ok (.baload, 1)) ?_
  refine lv_sipush (v := 255) hx hb (by decide +kernel : decode am_J1.1.2.2 9 = .ok (.sipush 255, 3)) (by decide) ?_
  refine lv_iand hx hb (by decide +kernel : decode am_J1.1.2.2 12 = .ok (.iand, 1)) ?_
  refine lv_i2c hx hb (by decide +kernel : decode am_J1.1.2.2 13 = .ok (.i2c, 1)) (am_txt_ok hlt).1 ?_
  exact W.zret hx hb hr (am_txt_ok hlt).2 (fun t ht _ => ⟨rfl, ht⟩) (fun _ h => by cases h) (by decide +kernel : decode am_J1.1.2.2 14 = .ok (.ireturn, 1))
theorem am_JI_met (hTm : am_TXm B TX) (hZ : ∀ U, TX U → am_TS B K V U) : am_JMet l B TX am_JI [.ref K] (some (.int 1)) := by
  refine am_jof rfl (Nat.le_of_ble_eq_true rfl) ?_
  intro p e s m args below meth c L hx hb hml hr hown hts hlk hP hl
  have l0 : L[0]? = some (.val (.ref K)) := lv_at hl 0 rfl
  obtain ⟨t1, t2, t3, t4, t5, t6⟩ := hZ s hP.2
  refine va_gets hx hb t5 va_S.rf hown (hts _ (am_w_ok (i := 374) (by decide +kernel) : Cond.fieldLink "java/lang/String" 38 "java/lang/String" "COMPACT_STRINGS" "Z" ∈ am_ts)) (fun _ h => h) (by decide +kernel : decode am_JI.1.2.2 0 = .ok (.getstatic 38, 3)) ?_
  refine lv_if_eq (tgt := 17) hx hb (by decide +kernel : decode am_JI.1.2.2 3 = .ok (.ifCond .eq 14, 3)) rfl (fun h => absurd h (by decide)) (fun _ => ?_)
  refine lv_aload_n hx hb (by decide +kernel : decode am_JI.1.2.2 6 = .ok (.aload_n 0, 1)) rfl l0 ?_
  refine vk_getf hx hb t2 va_S.rf hown (hts _ (am_w_ok (i := 2065) (by decide +kernel) : Cond.fieldLink "java/lang/String" 15 "java/lang/String" "coder" "B" ∈ am_ts)) (fun _ h => h) (by decide +kernel : decode am_JI.1.2.2 7 = .ok (.getfield 15, 3)) ?_
  refine lv_if_ne (tgt := 17) hx hb (by decide +kernel : decode am_JI.1.2.2 10 = .ok (.ifCond .ne 7, 3)) rfl (fun h => absurd rfl h) (fun _ => ?_)
  refine lv_iconst (v := 1) hx hb (by decide +kernel : decode am_JI.1.2.2 13 = .ok (.iconst 1, 1)) (by decide) ?_
  refine lv_goto (tgt := 18) hx hb (by decide +kernel : decode am_JI.1.2.2 14 = .ok (.goto 4, 3)) rfl ?_
  exact W.zret hx hb hr (by decide) (fun t ht _ => ⟨rfl, ht⟩) (fun _ h => by cases h) (by decide +kernel : decode am_JI.1.2.2 18 = .ok (.ireturn, 1))
theorem am_JC_met (hTm : am_TXm B TX) (hZ : ∀ U, TX U → am_TS B K V U) {j : Int32} (hj : vp_in j 120) : am_JMet l B TX am_JC [.ref K, .int j] (some (.int (am_txt j.toNatClampNeg))) := by
  refine am_jof rfl (by simp [am_cat, Value.category, am_JC]) ?_
  intro p e s m args below meth c L hx hb hml hr hown hts hlk hP hl
  have l0 : L[0]? = some (.val (.ref K)) := lv_at hl 0 rfl
  have l1 : L[1]? = some (.val (.int j)) := lv_at hl 1 rfl
  have hlt : j.toNatClampNeg < 120 := Nat.not_le.mp fun q => hj (Or.inr q)
  obtain ⟨t1, t2, t3, t4, t5, t6⟩ := hZ s hP.2
  refine lv_aload_n hx hb (by decide +kernel : decode am_JC.1.2.2 0 = .ok (.aload_n 0, 1)) rfl l0 ?_
  refine am_jV (M' := am_JI) (As := []) (rest := []) (own := am_JC.1.2.1.cls) (nL := 2) hx hb hml hown hts (am_JI_met hTm hZ) hTm hP va_S.rf rfl (am_w_ok (i := 370) (by decide +kernel)) (am_w_ok (i := 371) (by decide +kernel)) (am_w_ok (i := 372) (by decide +kernel)) (am_w_ok (i := 123) (by decide +kernel)) (am_w_ok (i := 373) (by decide +kernel)) (by decide +kernel) (by decide) (by decide) ?_ rfl hl.1 rfl (by decide) (by decide +kernel : decode am_JC.1.2.2 1 = .ok (.invokevirtual 492, 3)) ?_
  · obtain ⟨cell, q1, q2, q3, -⟩ := t1
    exact ⟨cell, q1, q2, q3⟩
  refine lv_if_eq (tgt := 16) hx hb (by decide +kernel : decode am_JC.1.2.2 4 = .ok (.ifCond .eq 12, 3)) rfl (fun h => absurd h (by decide)) (fun _ => ?_)
  refine lv_aload_n hx hb (by decide +kernel : decode am_JC.1.2.2 7 = .ok (.aload_n 0, 1)) rfl l0 ?_
  refine vk_getf hx hb t3 va_S.rf hown (hts _ (am_w_ok (i := 2066) (by decide +kernel) : Cond.fieldLink "java/lang/String" 9 "java/lang/String" "value" "[B" ∈ am_ts)) (fun _ h => h) (by decide +kernel : decode am_JC.1.2.2 8 = .ok (.getfield 9, 3)) ?_
  refine lv_iload_n hx hb (by decide +kernel : decode am_JC.1.2.2 11 = .ok (.iload_n 1, 1)) rfl l1 ?_
  refine am_jS (M' := am_J1) (As := [.ref V, .int j]) (rest := []) (own := am_JC.1.2.1.cls) (nL := 2) hx hb hml hown hts (am_J1_met hTm hZ hj) hTm hP va_S.rf rfl (am_w_ok (i := 376) (by decide +kernel)) (am_w_ok (i := 377) (by decide +kernel)) (am_w_ok (i := 124) (by decide +kernel)) (am_w_ok (i := 378) (by decide +kernel)) (by decide +kernel) (by decide) (by decide) rfl hl.1 rfl (by decide) (by decide +kernel : decode am_JC.1.2.2 12 = .ok (.invokestatic 495, 3)) ?_
  exact W.zret hx hb hr (am_txt_ok hlt).2 (fun t ht _ => ⟨rfl, ht⟩) (fun _ h => by cases h) (by decide +kernel : decode am_JC.1.2.2 15 = .ok (.ireturn, 1))
/-- the one constant of the Reader -/
def am_isStr (w : Cond) : Bool := match w with
  | .stringRef o k tx => !decide (o = "AirBed$Reader") || (decide (k = 29) && decide (tx = "bed   blowerturn  pump  leak  trial slip  seed  law   lose  fill  load  full  room  open  secondbreathor    and   not   "))
  | _ => true
set_option maxRecDepth 1000000 in
theorem am_str_all : lw_tbl.all am_isStr = true := by decide +kernel
def am_words : String := "bed   blowerturn  pump  leak  trial slip  seed  law   lose  fill  load  full  room  open  secondbreathor    and   not   "
theorem am_str_one {k : Nat} {tx : String} (h : Cond.stringRef "AirBed$Reader" k tx ∈ lw_tbl) : k = 29 ∧ tx = am_words := by
  have := List.all_eq_true.mp am_str_all _ h
  simp only [am_isStr, decide_true, Bool.not_true, Bool.false_or, Bool.and_eq_true, decide_eq_true_eq] at this
  exact this
theorem am_TxOK_of {x : Nat → Nat} (hTm : am_TXm B TX) (hZ : ∀ U, TX U → am_TS B (x 1) V U) (hR : ∀ U, TX U → vk_R "AirBed$Reader" 29 am_words (x 1) U) : am_TxOK l B x am_txt TX := by
  intro p e s m args below meth c M C hT hB
  obtain ⟨hx, hb, hml, hr, hown, hts, hlk, hnm, htn⟩ := C
  refine ⟨?_, ?_⟩
  · intro idx pc tx hd hcls hw Q H locs L st nc ns kk
    rw [hcls] at hw hown
    obtain ⟨rfl, rfl⟩ := am_str_one hw
    exact va_ldcS hx hb hown (hR s hT) hd kk
  · intro idx pc hd hw Q H locs L st nc ns j h1 h2 h3 h4 h5 hj hsz hS kk
    refine am_jV (M' := am_JC) (As := [.int j]) (rest := st) (own := M.1.2.1.cls) (nL := M.2.1.1) hx hb hml hown hts (am_JC_met hTm hZ hj) hTm ⟨hB, hT⟩ hS rfl hw (am_w_ok (i := 367) (by decide +kernel)) (am_w_ok (i := 368) (by decide +kernel)) (am_w_ok (i := 123) (by decide +kernel)) (am_w_ok (i := 369) (by decide +kernel)) (by decide +kernel) ⟨Nat.le_trans (by decide) h1, Nat.le_trans (by decide) h3⟩ ⟨h4, h5⟩ ?_ rfl hsz rfl h2 hd (kk H locs (fun _ => rfl) hS)
    obtain ⟨cell, q1, q2, q3, -⟩ := (hZ s hT).1.kept hS.2.1
    exact ⟨cell, q1, q2, q3⟩
end AMJ
