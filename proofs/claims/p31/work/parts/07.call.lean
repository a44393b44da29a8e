/-! ===== CALLS ===== -/
def am_ws (M : am_M) : List Cond := Cond.code M.1.2.1 M.1.2.2 M.2.1.1 M.2.1.2.1 :: am_ts
/-- what is said of old cells (the words' text): it hangs on the tables and on cells below B alone -/
def am_TXm (B : Nat) (TX : State → Prop) : Prop := ∀ U U' : State, (U.vm = U'.vm ∨ U.WarmedH U'.vm) → (∀ q, q < B → U'.heap[q]? = U.heap[q]?) → TX U → TX U'
def am_Pc (D : va_G) (cl : List vw_C) (B : Nat) (x : Nat → Nat) (ex : Bool) (TX : State → Prop) (as : List Value) (ks : List am_k) (h : am_H) : Array Value → State → Prop :=
  va_Pc (as.map (am_c B x)) (fun U => am_Rel D cl B x ex ks h U.heap.size U U.heap ∧ B ≤ U.heap.size ∧ TX U)
def am_Qc (D : va_G) (cl : List vw_C) (B : Nat) (x : Nat → Nat) (ex : Bool) (r : am_O) : Array Value → State → Outcome → State → Prop := fun _ st oc t =>
  oc = .returned (r.1.map (am_c B x)) ∧ am_Rel D cl B x ex r.2.1 r.2.2 (B + r.2.1.length) t t.heap ∧ va_F (fun q => B ≤ q) st t
/-- a method's contract at one heap and one list of arguments -/
def am_Met (l : Launch) (D : va_G) (cl : List vw_C) (B : Nat) (x : Nat → Nat) (ex : Bool) (TX : State → Prop) (M : am_M) (as : List Value) (ks : List am_k) (h : am_H) (r : am_O) : Prop :=
  Met l M.1.2.1 (am_ws M) (am_rm M) (am_Pc D cl B x ex TX as ks h) (am_Qc D cl B x ex r) M.2.2.1.2.2.1 M.2.2.1.2.2.2 (fun q => B ≤ q)
/-- what the tables say of a method that is called -/
def am_okM (G : am_G) (M : am_M) : Prop := Cond.code M.1.2.1 M.1.2.2 M.2.1.1 M.2.1.2.1 ∈ am_ts ∧ Cond.initialized M.1.2.1.cls ∈ am_ts ∧ (M.1.2.1.cls ≠ "java/lang/invoke/MethodHandle" ∧ M.1.2.1.cls ≠ "java/lang/invoke/VarHandle" ∧ (parseMethodDescriptor M.1.2.1.desc).map (fun d => d.parameters.length) = some M.2.1.2.2) ∧ plainName M.1.2.1.cls = true ∧ G.2.2.1 M.1.1 = M.1.2.1.cls
def am_ml (own : String) (idx : Nat) (y : MethodName) : Prop := Cond.methodLink own idx y ∈ am_ts ∨ ∃ host, Cond.methodLinkNest own idx y host ∈ am_tn
theorem am_good {ws : List Cond} (h : ∀ w ∈ ws, w ∈ am_ts) : GoodIn am_ts ws := fun w hw => ⟨h w hw, good_of_word (am_ts_good (h w hw))⟩
theorem am_Pc_blind {D : va_G} {cl : List vw_C} {B : Nat} {x : Nat → Nat} {ex : Bool} {TX : State → Prop} {as : List Value} {ks : List am_k} {h : am_H} (hTm : am_TXm B TX) : FrameBlind (am_Pc D cl B x ex TX as ks h) := by
  intro a U g mk q
  obtain ⟨q0, qR, qB, qT⟩ := q
  exact ⟨q0, am_Rel.moved (u := U) (U := U.calling g mk a) (Vm.Alike.refl U.vm) qR, qB, hTm U (U.calling g mk a) (Or.inl rfl) (fun _ _ => rfl) qT⟩
section AMC
variable {p : Program} {l : Launch} {e : Env} {R : Room} {s : State} {m : MethodId} {args : Array Value} {below : List Frame} {meth : Method} {c : Code} {D : va_G} {cl : List vw_C} {B : Nat} {x : Nat → Nat} {ex : Bool} {nL : Nat} {Q : State → Prop} {M M' : am_M} {f' : am_F}
variable {pc len : Nat} {ins : Instr} {an : Nat × Nat × Nat} {v0 : Int} {cs : List am_I} {ls : am_L} {st : List Value} {ks : List am_k} {h : am_H} {nc ns : Nat} {G : am_G} {rc : am_rec} {TX : State → Prop}
theorem am_call_use {H : Heap} {locs : List Loc} {L : Array Slot} {st0 rest : List Value} {r : am_O} {mc ms : Nat} {a : Array Value} (hr : va_Run p l e R s m args below meth c H locs nc ns mc ms (F0 m pc L st0) rest (am_Qc D cl B x ex r a) (fun q => B ≤ q)) (hS : va_S (fun q => B ≤ q) s.heap H locs)
    (kk : ∀ (H1 : Heap) (locs1 : List Loc), am_Rel D cl B x ex r.2.1 r.2.2 (B + r.2.1.length) s H1 → va_S (fun q => B ≤ q) s.heap H1 locs1 → W p l e R s m args below meth c H1 locs1 (nc + mc) (ns + ms) Q (F0 m (pc + 3) L ((r.1.map (am_c B x)).toList ++ rest))) : W p l e R s m args below meth c H locs nc ns Q (F0 m pc L st0) := by
  intro T hT X
  obtain ⟨v, st₀, t, T', L', h0, X', hL, e1, e2, ⟨hv, hrel, hz, hk⟩, st⟩ := hr T hT X
  cases hv
  rw [h0] at hz hk
  have hal : t.vm.Alike s.vm := by rw [← e2]; exact (X'.warmed.alike).symm
  have hrel2 := am_Rel.moved hal hrel
  rw [← e1] at hrel2 hz hk
  obtain ⟨t2, a1, b1⟩ := kk T'.heap (locs ++ L') hrel2 ⟨Nat.le_trans hS.1 hz, fun q h1 h2 => by rw [hk q (Nat.lt_of_lt_of_le h1 hS.1) h2]; exact hS.2.1 q h1 h2, fun q hq => by
      rcases List.mem_append.mp hq with h | h
      · exact hS.2.2 q h
      · exact hL q h⟩ T' rfl X'
  exact ⟨t2, st t2 a1, b1⟩
/-- the parts of a call that went on -/
theorem am_calls_use {a : Nat} {i : am_I} {as rest : List Value} {o : am_F ⊕ am_O} (hh : am_calls ex M M' a rc i cs ls as rest ks h nc ns = some o) : am_okC M M' as rest nc ns = true ∧ ∃ r : am_O, rc a as ks h = some r ∧ (ex = true → r.2.1.length = ks.length + M'.2.2.1.2.2.1) ∧ am_go i cs ls (r.1.toList ++ rest) r.2.1 r.2.2 (nc + M'.2.2.1.2.2.1) (ns + M'.2.2.1.2.2.2) = some o := by
  unfold am_calls at hh
  cases hok : am_okC M M' as rest nc ns with
  | false => rw [hok] at hh; cases hh
  | true =>
  rw [hok, cond_true] at hh
  split at hh
  · cases hh
  · rename_i r ks' h' hrc
    cases hq : (!ex || Nat.beq ks'.length (ks.length + M'.2.2.1.2.2.1)) with
    | false => rw [hq] at hh; cases hh
    | true =>
    rw [hq, cond_true] at hh
    refine ⟨rfl, (r, ks', h'), hrc, fun hex => ?_, hh⟩
    subst hex
    exact Nat.eq_of_beq_eq_true (by simpa using hq)
theorem am_okC_use {as rest : List Value} (hh : am_okC M M' as rest nc ns = true) : (am_rm M').frames + 1 ≤ (am_rm M).frames ∧ 8 + (M'.2.1.1 + 11) + (am_rm M').locals ≤ (am_rm M).locals ∧ nc + M'.2.2.1.2.2.1 ≤ (am_rm M).cells ∧ ns + M'.2.2.1.2.2.2 ≤ (am_rm M).slots ∧ am_cat rest ≤ 8 ∧ am_cat as ≤ M'.2.1.1 := by
  simp only [am_okC, Bool.and_eq_true] at hh
  obtain ⟨⟨⟨⟨⟨h1, h2⟩, h3⟩, h4⟩, h5⟩, h6⟩ := hh
  exact ⟨Nat.le_of_ble_eq_true h1, Nat.le_of_ble_eq_true h2, Nat.le_of_ble_eq_true h3, Nat.le_of_ble_eq_true h4, Nat.le_of_ble_eq_true h5, Nat.le_of_ble_eq_true h6⟩
theorem am_pre_heap {H : Heap} {U : State} (hU : U.heap = H) (hal : s.WarmedH U.vm) (hR : am_Rel D cl B x ex ks h (s.heap.size + nc) s H) (hB : B ≤ s.heap.size) {locs : List Loc} (hS0 : va_S (fun q => B ≤ q) s.heap H locs) (hsz : H.size ≤ s.heap.size + nc) (hTm : am_TXm B TX) (hT : TX s) : am_Rel D cl B x ex ks h U.heap.size U U.heap ∧ B ≤ U.heap.size ∧ TX U := by
  have hS := hS0.1
  refine ⟨am_Rel.moved hal.alike ?_, by rw [hU]; omega, hTm s U (Or.inr hal) (fun q hq => by rw [hU]; exact hS0.2.1 q (Nat.lt_of_lt_of_le hq hB) (Nat.not_le.mpr hq)) hT⟩
  rw [hU]
  obtain ⟨hK, dA, hP, hA, hz⟩ := hR
  refine ⟨hK, dA, hP, hA, fun hex => ?_⟩
  have := hz hex
  have hlo := am_lo hP (Nat.le_trans hB hS)
  omega
theorem am_map_rev (B : Nat) (x : Nat → Nat) (as : List Value) : (as.reverse.map (am_c B x)) = (as.map (am_c B x)).reverse := by rw [List.map_reverse]
/-- a call on an object, but for the kind of the call -/
theorem am_callV_use {i : am_I} (C : am_C p s m args meth c M) (hG : am_okG cl G) (hRm : R = am_rm M) (hB : B ≤ s.heap.size) (hTm : am_TXm B TX) (hT : TX s) (hM : ∀ M', G.1 i.2.2.2.1.1 = some M' → am_okM G M')
    (hrec : ∀ (a : Nat) (M' : am_M) (as : List Value) (ks : List am_k) (h : am_H) (r : am_O), G.1 a = some M' → am_cat as ≤ M'.2.1.1 → rc a as ks h = some r → am_Met l D cl B x ex TX M' as ks h r)
    (hlen3 : i.2.1 = 3) (hone : am_callV ex G M rc i cs ls st ks h nc ns = some (.inl f')) (hW : am_Wf p l e R s m args below meth c D cl B x ex M.2.1.1 Q f')
    (hrun : ∀ (M' : am_M) (H : Heap) (locs : List Loc) (L : Array Slot) (o : Nat) (As rest : List Value) (Pc : Array Value → State → Prop) (Qc : Array Value → State → Outcome → State → Prop), G.1 i.2.2.2.1.1 = some M' → Met l M'.1.2.1 (am_ws M') (am_rm M') Pc Qc M'.2.2.1.2.2.1 M'.2.2.1.2.2.2 (fun q => B ≤ q) → FrameBlind Pc →
      (∃ cellB : Cell, H[B + o]? = some cellB ∧ cellB.vm.isStatics = false ∧ s.vm.findClass M'.1.2.1.cls = some cellB.cls) → (∀ U : State, U.heap = H → s.WarmedH U.vm → Pc (Value.ref (B + o) :: As).toArray U) → As.length = M'.2.1.2.2 → L.size = M.2.1.1 →
      (st.map (am_c B x)) = As.reverse ++ .ref (B + o) :: rest → 2 * (F0 m i.1 L (st.map (am_c B x))).monitorRoom + (rest.map fun v => v.category).sum ≤ 8 → ((am_rm M').frames + 1 ≤ (am_rm M).frames ∧ 8 + (M'.2.1.1 + 11) + (am_rm M').locals ≤ (am_rm M).locals) → (nc + M'.2.2.1.2.2.1 ≤ (am_rm M).cells ∧ ns + M'.2.2.1.2.2.2 ≤ (am_rm M).slots) →
      va_Run p l e R s m args below meth c H locs nc ns M'.2.2.1.2.2.1 M'.2.2.1.2.2.2 (F0 m i.1 L (st.map (am_c B x))) rest (Qc (Value.ref (B + o) :: As).toArray) (fun q => B ≤ q)) : am_Wf p l e R s m args below meth c D cl B x ex M.2.1.1 Q (i :: cs, ls, st, ks, h, nc, ns) := by
  obtain ⟨hx, hb, hml, hr, hown, hts, hlk, hnm, htn⟩ := C
  unfold am_callV at hone
  split at hone
  · cases hone
  rename_i M' hM'
  obtain ⟨m1, m2, m3, m4, m5⟩ := hM M' hM'
  split at hone
  · rename_i o rest hst
    split at hone
    · rename_i ci hks
      cases hcc : (Nat.beq ci M'.1.1 && Nat.beq (st.take M'.2.1.2.2).length M'.2.1.2.2) with
      | false => rw [hcc] at hone; cases hone
      | true =>
      rw [hcc, cond_true] at hone
      simp only [Bool.and_eq_true] at hcc
      obtain ⟨c1, c2⟩ := hcc
      have c1 := Nat.eq_of_beq_eq_true c1
      have c2 := Nat.eq_of_beq_eq_true c2
      subst c1
      obtain ⟨hok, r, hrc, hlen, hgo⟩ := am_calls_use hone
      obtain ⟨k1, k2, k3, k4, k5, k6⟩ := am_okC_use hok
      have hmet := hrec _ _ _ _ _ _ hM' k6 hrc
      have hst2 : st = st.take M'.2.1.2.2 ++ .ref o :: rest := by rw [← hst]; exact (List.take_append_drop _ _).symm
      generalize hA0 : st.take M'.2.1.2.2 = As at hst2 c2 hrc hmet k6
      intro H locs L j r' hj hR hS hl
      cases hj
      refine am_size (fun hsz => ?_)
      have hRel := hR
      obtain ⟨hK, dA, hP, hA, hz⟩ := hR
      have he := am_W_some (cl := cl) (B := B) (x := x) (dA := dA) (h := h) hks
      obtain ⟨rr, hcl, -⟩ := hP o _ he
      have hcl : cl[M'.1.1]? = some rr := hcl
      have hrr : rr.1 = M'.1.2.1.cls := ((hG _ _ hcl).2.1).symm.trans m5
      have hrcv := va_recv hK hP hcl he
      rw [hrr] at hrcv
      have hstk : (st.map (am_c B x)) = ((As.reverse).map (am_c B x)).reverse ++ .ref (B + o) :: rest.map (am_c B x) := by
        rw [hst2, List.map_append, am_map_rev, List.reverse_reverse]; rfl
      have hPre : ∀ U : State, U.heap = H → s.WarmedH U.vm → am_Pc D cl B x ex TX (.ref o :: As.reverse) ks h (Value.ref (B + o) :: (As.reverse).map (am_c B x)).toArray U := fun U hU hWm => ⟨rfl, am_pre_heap hU hWm hRel hB hS hsz hTm hT⟩
      have hn : ((As.reverse).map (am_c B x)).length = M'.2.1.2.2 := by rw [List.length_map, List.length_reverse]; exact c2
      have hW8 : 2 * (F0 m i.1 L (st.map (am_c B x))).monitorRoom + ((rest.map (am_c B x)).map fun v => v.category).sum ≤ 8 := lv_room (by rw [am_cat_map]; exact k5)
      refine am_call_use (hrun M' H locs L o _ _ _ _ hM' hmet (am_Pc_blind hTm) hrcv hPre hn hl.1 hstk hW8 ⟨k1, k2⟩ ⟨k3, k4⟩) hS ?_
      intro H1 locs1 q1 q2
      have h1 := am_go_use hgo hW H1 locs1 L ⟨q1.1, q1.2.choose, q1.2.choose_spec.1, q1.2.choose_spec.2.1, fun hex => by have := hz hex; have h8 := hlen hex; rw [h8]; have h7 : s.heap.size + nc = B + ks.length := this; omega⟩ q2 hl
      have h2 : ((r.1.toList ++ rest).map (am_c B x)) = (r.1.map (am_c B x)).toList ++ rest.map (am_c B x) := by
        rw [List.map_append]
        cases r.1 <;> rfl
      rw [h2, hlen3] at h1
      exact h1
    · cases hone
  · cases hone
theorem am_callS_use {i : am_I} (C : am_C p s m args meth c M) (hRm : R = am_rm M) (hB : B ≤ s.heap.size) (hTm : am_TXm B TX) (hT : TX s)
    (hrec : ∀ (a : Nat) (M' : am_M) (as : List Value) (ks : List am_k) (h : am_H) (r : am_O), G.1 a = some M' → am_cat as ≤ M'.2.1.1 → rc a as ks h = some r → am_Met l D cl B x ex TX M' as ks h r)
    (hlen3 : i.2.1 = 3) (hone : am_callS ex G M rc i cs ls st ks h nc ns = some (.inl f')) (hW : am_Wf p l e R s m args below meth c D cl B x ex M.2.1.1 Q f')
    (hrun : ∀ (M' : am_M) (H : Heap) (locs : List Loc) (L : Array Slot) (As rest : List Value) (Pc : Array Value → State → Prop) (Qc : Array Value → State → Outcome → State → Prop), G.1 i.2.2.2.1.1 = some M' → Met l M'.1.2.1 (am_ws M') (am_rm M') Pc Qc M'.2.2.1.2.2.1 M'.2.2.1.2.2.2 (fun q => B ≤ q) → FrameBlind Pc →
      (∀ U : State, U.heap = H → s.WarmedH U.vm → Pc As.toArray U) → As.length = M'.2.1.2.2 → L.size = M.2.1.1 →
      (st.map (am_c B x)) = As.reverse ++ rest → 2 * (F0 m i.1 L (st.map (am_c B x))).monitorRoom + (rest.map fun v => v.category).sum ≤ 8 → ((am_rm M').frames + 1 ≤ (am_rm M).frames ∧ 8 + (M'.2.1.1 + 11) + (am_rm M').locals ≤ (am_rm M).locals) → (nc + M'.2.2.1.2.2.1 ≤ (am_rm M).cells ∧ ns + M'.2.2.1.2.2.2 ≤ (am_rm M).slots) →
      va_Run p l e R s m args below meth c H locs nc ns M'.2.2.1.2.2.1 M'.2.2.1.2.2.2 (F0 m i.1 L (st.map (am_c B x))) rest (Qc As.toArray) (fun q => B ≤ q)) : am_Wf p l e R s m args below meth c D cl B x ex M.2.1.1 Q (i :: cs, ls, st, ks, h, nc, ns) := by
  obtain ⟨hx, hb, hml, hr, hown, hts, hlk, hnm, htn⟩ := C
  unfold am_callS at hone
  split at hone
  · cases hone
  rename_i M' hM'
  cases hcc : Nat.beq (st.take M'.2.1.2.2).length M'.2.1.2.2 with
  | false => rw [hcc] at hone; cases hone
  | true =>
  rw [hcc, cond_true] at hone
  have c2 := Nat.eq_of_beq_eq_true hcc
  obtain ⟨hok, r, hrc, hlen, hgo⟩ := am_calls_use hone
  obtain ⟨k1, k2, k3, k4, k5, k6⟩ := am_okC_use hok
  have hmet := hrec _ _ _ _ _ _ hM' k6 hrc
  have hst2 : st = st.take M'.2.1.2.2 ++ st.drop M'.2.1.2.2 := (List.take_append_drop _ _).symm
  generalize hA0 : st.take M'.2.1.2.2 = As at hst2 c2 hrc hmet k6
  generalize hB0 : st.drop M'.2.1.2.2 = rest at hst2 k5 hgo
  intro H locs L j r' hj hR hS hl
  cases hj
  refine am_size (fun hsz => ?_)
  have hRel := hR
  obtain ⟨hK, dA, hP, hA, hz⟩ := hR
  have hstk : (st.map (am_c B x)) = ((As.reverse).map (am_c B x)).reverse ++ rest.map (am_c B x) := by
    rw [hst2, List.map_append, am_map_rev, List.reverse_reverse]
  have hPre : ∀ U : State, U.heap = H → s.WarmedH U.vm → am_Pc D cl B x ex TX As.reverse ks h ((As.reverse).map (am_c B x)).toArray U := fun U hU hWm => ⟨rfl, am_pre_heap hU hWm hRel hB hS hsz hTm hT⟩
  have hn : ((As.reverse).map (am_c B x)).length = M'.2.1.2.2 := by rw [List.length_map, List.length_reverse]; exact c2
  have hW8 : 2 * (F0 m i.1 L (st.map (am_c B x))).monitorRoom + ((rest.map (am_c B x)).map fun v => v.category).sum ≤ 8 := lv_room (by rw [am_cat_map]; exact k5)
  refine am_call_use (hrun M' H locs L _ _ _ _ hM' hmet (am_Pc_blind hTm) hPre hn hl.1 hstk hW8 ⟨k1, k2⟩ ⟨k3, k4⟩) hS ?_
  intro H1 locs1 q1 q2
  have h1 := am_go_use hgo hW H1 locs1 L ⟨q1.1, q1.2.choose, q1.2.choose_spec.1, q1.2.choose_spec.2.1, fun hex => by have := hz hex; have h8 := hlen hex; rw [h8]; have h7 : s.heap.size + nc = B + ks.length := this; omega⟩ q2 hl
  have h2 : ((r.1.toList ++ rest).map (am_c B x)) = (r.1.map (am_c B x)).toList ++ rest.map (am_c B x) := by
    rw [List.map_append]
    cases r.1 <;> rfl
  rw [h2, hlen3] at h1
  exact h1
theorem am_ws_good {w : Cond} (m1 : Cond.code M'.1.2.1 M'.1.2.2 M'.2.1.1 M'.2.1.2.1 ∈ am_ts) (hw : w ∈ am_ws M') : w ∈ am_ts := by
  simp only [am_ws, List.mem_cons] at hw
  rcases hw with rfl | hw
  · exact m1
  · exact hw
theorem am_s_virtual {idx : Nat} (C : am_C p s m args meth c M) (hG : am_okG cl G) (hRm : R = am_rm M) (hB : B ≤ s.heap.size) (hTm : am_TXm B TX) (hT : TX s) (hk0 : an.2.2 ≠ 0) (hd : decode M.1.2.2 pc = .ok (.invokevirtual idx, 3))
    (hM : ∀ M', G.1 an.1 = some M' → am_okM G M' ∧ Cond.instanceMethod M'.1.2.1 ∈ am_ts ∧ Cond.selects M'.1.2.1.cls M'.1.2.1 M'.1.2.1 ∈ am_ts ∧ am_ml M.1.2.1.cls idx M'.1.2.1)
    (hrec : ∀ (a : Nat) (M' : am_M) (as : List Value) (ks : List am_k) (h : am_H) (r : am_O), G.1 a = some M' → am_cat as ≤ M'.2.1.1 → rc a as ks h = some r → am_Met l D cl B x ex TX M' as ks h r)
    (hone : am_one am_φ ex G rc M ((pc, 3, .invokevirtual idx, an, v0) :: cs, ls, st, ks, h, nc, ns) = some (.inl f')) (hW : am_Wf p l e R s m args below meth c D cl B x ex M.2.1.1 Q f') : am_Wf p l e R s m args below meth c D cl B x ex M.2.1.1 Q ((pc, 3, .invokevirtual idx, an, v0) :: cs, ls, st, ks, h, nc, ns) := by
  have C0 := C
  obtain ⟨hx, hb, hml, hr, hown, hts, hlk, hnm, htn⟩ := C
  simp only [am_one] at hone
  refine am_callV_use C0 hG hRm hB hTm hT (fun M' h9 => (hM M' h9).1) hrec rfl hone hW ?_
  intro M' H locs L o As rest Pc Qc hM' hmet hbl hrcv hPre hn hsz hstk hW8 hR1 hR2
  obtain ⟨⟨m1, m2, m3, m4, m5⟩, m6, m7, m8⟩ := hM M' hM'
  subst hRm
  rcases m8 with m8 | ⟨host, m8⟩
  · refine va_runV (own := M.1.2.1.cls) (C := M'.1.2.1.cls) (Ts := am_ts) (cc := M.1.2.2) (nL := M.2.1.1) ⟨hx, hb, hml, hown, hts⟩ hmet (cwV M'.2.1.2.2 hts (am_good (fun w hw => ?_)) rfl rfl rfl ⟨rfl, m3⟩ hR1) ⟨hbl, hrcv, hPre⟩ rfl hn hsz hstk hW8 hd hR2
    simp only [wsV, List.mem_append, List.mem_cons, List.not_mem_nil, or_false] at hw
    rcases hw with (rfl | rfl | rfl | rfl) | hw
    · exact m8
    · exact m6
    · exact m7
    · exact m2
    · exact am_ws_good m1 hw
  · exact va_runVN (own := M.1.2.1.cls) (C := M'.1.2.1.cls) (Ts := am_ts) (cc := M.1.2.2) (nL := M.2.1.1) ⟨hx, hb, hml, hown, hts⟩ hmet ⟨va_cnB M'.2.1.2.2 hts (am_good (fun w hw => am_ws_good m1 hw)) rfl rfl rfl (htn _ m8) (hts _ m2) m3 hR1, hts _ m6, hts _ m7⟩ ⟨hbl, hrcv, hPre⟩ rfl hn hsz hstk hW8 hd hR2
theorem am_s_special {idx : Nat} (C : am_C p s m args meth c M) (hG : am_okG cl G) (hRm : R = am_rm M) (hB : B ≤ s.heap.size) (hTm : am_TXm B TX) (hT : TX s) (hk0 : an.2.2 ≠ 0) (hd : decode M.1.2.2 pc = .ok (.invokespecial idx, 3))
    (hM : ∀ M', G.1 an.1 = some M' → am_okM G M' ∧ Cond.instanceMethod M'.1.2.1 ∈ am_ts ∧ (M'.1.2.1.name = "<init>" ∧ M'.2.1.2.1 = none) ∧ am_ml M.1.2.1.cls idx M'.1.2.1)
    (hrec : ∀ (a : Nat) (M' : am_M) (as : List Value) (ks : List am_k) (h : am_H) (r : am_O), G.1 a = some M' → am_cat as ≤ M'.2.1.1 → rc a as ks h = some r → am_Met l D cl B x ex TX M' as ks h r)
    (hone : am_one am_φ ex G rc M ((pc, 3, .invokespecial idx, an, v0) :: cs, ls, st, ks, h, nc, ns) = some (.inl f')) (hW : am_Wf p l e R s m args below meth c D cl B x ex M.2.1.1 Q f') : am_Wf p l e R s m args below meth c D cl B x ex M.2.1.1 Q ((pc, 3, .invokespecial idx, an, v0) :: cs, ls, st, ks, h, nc, ns) := by
  have C0 := C
  obtain ⟨hx, hb, hml, hr, hown, hts, hlk, hnm, htn⟩ := C
  simp only [am_one] at hone
  refine am_callV_use C0 hG hRm hB hTm hT (fun M' h9 => (hM M' h9).1) hrec rfl hone hW ?_
  intro M' H locs L o As rest Pc Qc hM' hmet hbl hrcv hPre hn hsz hstk hW8 hR1 hR2
  obtain ⟨⟨m1, m2, m3, m4, m5⟩, m6, ⟨m7, m9⟩, m8⟩ := hM M' hM'
  subst hRm
  rcases m8 with m8 | ⟨host, m8⟩
  · exact va_runI (own := M.1.2.1.cls) (Ts := am_ts) (cc := M.1.2.2) (nL := M.2.1.1) ⟨hx, hb, hml, hown, hts⟩ hmet (cwI (bytes := M'.1.2.2) (maxL := M'.2.1.1) (ws' := am_ts) M'.2.1.2.2 hts (am_good (fun w hw => am_ws_good m1 hw)) (by rw [am_ws, m9]) rfl rfl (hts _ m2) (hts _ m8) (hts _ m6) m7 m3 hR1) ⟨hbl, hPre⟩ rfl hn hsz hstk hW8 hd hR2
  · exact va_runIN (own := M.1.2.1.cls) (Ts := am_ts) (cc := M.1.2.2) (nL := M.2.1.1) ⟨hx, hb, hml, hown, hts⟩ hmet ⟨va_cnB (bytes := M'.1.2.2) (maxL := M'.2.1.1) (ws' := am_ts) M'.2.1.2.2 hts (am_good (fun w hw => am_ws_good m1 hw)) (by rw [am_ws, m9]) rfl rfl (htn _ m8) (hts _ m2) m3 hR1, m7, hts _ m6⟩ ⟨hbl, hPre⟩ rfl hn hsz hstk hW8 hd hR2
theorem am_s_static {idx k : Nat} (C : am_C p s m args meth c M) (hRm : R = am_rm M) (hB : B ≤ s.heap.size) (hTm : am_TXm B TX) (hT : TX s) (hk0 : an.2.2 = k + 3) (hd : decode M.1.2.2 pc = .ok (.invokestatic idx, 3))
    (hM : ∀ M', G.1 an.1 = some M' → am_okM G M' ∧ Cond.static M'.1.2.1 ∈ am_ts ∧ ((M'.1.2.1.cls = M.1.2.1.cls ∧ Cond.methodLink M.1.2.1.cls idx M'.1.2.1 ∈ am_ts) ∨ ∃ host, Cond.methodLinkNest M.1.2.1.cls idx M'.1.2.1 host ∈ am_tn))
    (hrec : ∀ (a : Nat) (M' : am_M) (as : List Value) (ks : List am_k) (h : am_H) (r : am_O), G.1 a = some M' → am_cat as ≤ M'.2.1.1 → rc a as ks h = some r → am_Met l D cl B x ex TX M' as ks h r)
    (hone : am_one am_φ ex G rc M ((pc, 3, .invokestatic idx, an, v0) :: cs, ls, st, ks, h, nc, ns) = some (.inl f')) (hW : am_Wf p l e R s m args below meth c D cl B x ex M.2.1.1 Q f') : am_Wf p l e R s m args below meth c D cl B x ex M.2.1.1 Q ((pc, 3, .invokestatic idx, an, v0) :: cs, ls, st, ks, h, nc, ns) := by
  have C0 := C
  obtain ⟨hx, hb, hml, hr, hown, hts, hlk, hnm, htn⟩ := C
  simp only [am_one, hk0] at hone
  refine am_callS_use C0 hRm hB hTm hT hrec rfl hone hW ?_
  intro M' H locs L As rest Pc Qc hM' hmet hbl hPre hn hsz hstk hW8 hR1 hR2
  obtain ⟨⟨m1, m2, m3, m4, m5⟩, m6, m8⟩ := hM M' hM'
  subst hRm
  rcases m8 with ⟨m7, m8⟩ | ⟨host, m8⟩
  · refine va_runS (own := M.1.2.1.cls) (Ts := am_ts) (cc := M.1.2.2) (nL := M.2.1.1) ⟨hx, hb, hml, hown, hts⟩ hmet (cwS M'.2.1.2.2 hts (am_good (fun w hw => ?_)) rfl rfl rfl ⟨m7, m3⟩ hR1) ⟨hbl, hPre⟩ rfl hn hsz hstk hW8 hd hR2
    simp only [wsS, List.mem_append, List.mem_cons, List.not_mem_nil, or_false] at hw
    rcases hw with (rfl | rfl | rfl) | hw
    · exact m8
    · exact m6
    · rw [← m7]; exact m2
    · exact am_ws_good m1 hw
  · exact va_runSN (own := M.1.2.1.cls) (Ts := am_ts) (cc := M.1.2.2) (nL := M.2.1.1) ⟨hx, hb, hml, hown, hts⟩ hmet ⟨va_cnB M'.2.1.2.2 hts (am_good (fun w hw => am_ws_good m1 hw)) rfl rfl rfl (htn _ m8) (hts _ m2) m3 hR1, hts _ m6, trivial⟩ ⟨hbl, hPre⟩ rfl hn hsz hstk hW8 hd hR2
theorem am_s_objInit {idx : Nat} (C : am_C p s m args meth c M) (hRm : R = am_rm M) (hk0 : an.2.2 = 0) (hw : Cond.methodLink M.1.2.1.cls idx Lib.objectInit ∈ am_ts) (hw2 : Cond.instanceMethod Lib.objectInit ∈ am_ts) (hw3 : Cond.code Lib.objectInit ⟨#[0xb1]⟩ 1 none ∈ am_ts) (hd : decode M.1.2.2 pc = .ok (.invokespecial idx, 3))
    (hone : am_one am_φ ex G rc M ((pc, 3, .invokespecial idx, an, v0) :: cs, ls, st, ks, h, nc, ns) = some (.inl f')) (hW : am_Wf p l e R s m args below meth c D cl B x ex M.2.1.1 Q f') : am_Wf p l e R s m args below meth c D cl B x ex M.2.1.1 Q ((pc, 3, .invokespecial idx, an, v0) :: cs, ls, st, ks, h, nc, ns) := by
  obtain ⟨hx, hb, hml, hr, hown, hts, hlk, hnm, htn⟩ := C
  simp only [am_one, hk0] at hone
  split at hone
  · rename_i o st0
    cases hcc : (Nat.ble 1 M.2.2.1.1 && Nat.ble (am_cat st0 + 12) M.2.2.1.2.1) with
    | false => rw [hcc] at hone; cases hone
    | true =>
    rw [hcc, cond_true] at hone
    simp only [Bool.and_eq_true] at hcc
    intro H locs L j r hj hR hS hl
    cases hj
    subst hRm
    refine W.objInit (g := F0 m pc L (.ref (B + o) :: st0.map (am_c B x))) hx hb hown (hts _ hw) (hts _ hw2) (hts _ hw3) rfl (hl.1.trans hml.symm) rfl hd (Nat.le_of_ble_eq_true hcc.1) ?_ (am_go_use hone hW H locs L hR hS hl)
    have h1 := Nat.le_of_ble_eq_true hcc.2
    have h2 := am_cat_map B x st0
    have h3 : 2 * (F0 m pc L (.ref (B + o) :: st0.map (am_c B x))).monitorRoom = 0 := rfl
    have h4 : (am_rm M).locals = M.2.2.1.2.1 := rfl
    omega
  · cases hone
theorem am_s_max {idx : Nat} (C : am_C p s m args meth c M) (hRm : R = am_rm M) (hk0 : an.2.2 = 1) (hw : Cond.methodLink M.1.2.1.cls idx Lib.Math.max.name ∈ am_ts) (hw2 : Cond.static Lib.Math.max.name ∈ am_ts) (hw3 : Cond.initialized "java/lang/Math" ∈ am_ts) (hw4 : Cond.code Lib.Math.max.name Lib.Math.max.code 2 (some .int) ∈ am_ts) (hd : decode M.1.2.2 pc = .ok (.invokestatic idx, 3))
    (hone : am_one am_φ ex G rc M ((pc, 3, .invokestatic idx, an, v0) :: cs, ls, st, ks, h, nc, ns) = some (.inl f')) (hW : am_Wf p l e R s m args below meth c D cl B x ex M.2.1.1 Q f') : am_Wf p l e R s m args below meth c D cl B x ex M.2.1.1 Q ((pc, 3, .invokestatic idx, an, v0) :: cs, ls, st, ks, h, nc, ns) := by
  obtain ⟨hx, hb, hml, hr, hown, hts, hlk, hnm, htn⟩ := C
  simp only [am_one, hk0, am_math] at hone
  split at hone
  · rename_i b a st0
    cases hcc : (Nat.ble 1 M.2.2.1.1 && Nat.ble (am_cat st0 + 13) M.2.2.1.2.1 && Nat.ble nc M.2.2.1.2.2.1 && Nat.ble ns M.2.2.1.2.2.2) with
    | false => rw [hcc] at hone; cases hone
    | true =>
    rw [hcc, cond_true] at hone
    simp only [Bool.and_eq_true] at hcc
    obtain ⟨⟨⟨c1, c2⟩, c3⟩, c4⟩ := hcc
    intro H locs L j r hj hR hS hl
    cases hj
    subst hRm
    exact va_mmax (ls := L) hx hb (hml.trans hl.1.symm) hown (hts _ hw) (hts _ hw2) (hts _ hw3) (hts _ hw4) (Nat.le_of_ble_eq_true c1) (by rw [am_cat_map]; exact Nat.le_of_ble_eq_true c2) (Nat.le_of_ble_eq_true c3) (Nat.le_of_ble_eq_true c4) hd (am_go_use hone hW H locs L hR hS hl)
  · cases hone
theorem am_s_min {idx : Nat} (C : am_C p s m args meth c M) (hRm : R = am_rm M) (hk0 : an.2.2 = 2) (hw : Cond.methodLink M.1.2.1.cls idx Lib.Math.min.name ∈ am_ts) (hw2 : Cond.static Lib.Math.min.name ∈ am_ts) (hw3 : Cond.initialized "java/lang/Math" ∈ am_ts) (hw4 : Cond.code Lib.Math.min.name Lib.Math.min.code 2 (some .int) ∈ am_ts) (hd : decode M.1.2.2 pc = .ok (.invokestatic idx, 3))
    (hone : am_one am_φ ex G rc M ((pc, 3, .invokestatic idx, an, v0) :: cs, ls, st, ks, h, nc, ns) = some (.inl f')) (hW : am_Wf p l e R s m args below meth c D cl B x ex M.2.1.1 Q f') : am_Wf p l e R s m args below meth c D cl B x ex M.2.1.1 Q ((pc, 3, .invokestatic idx, an, v0) :: cs, ls, st, ks, h, nc, ns) := by
  obtain ⟨hx, hb, hml, hr, hown, hts, hlk, hnm, htn⟩ := C
  simp only [am_one, hk0, am_math] at hone
  split at hone
  · rename_i b a st0
    cases hcc : (Nat.ble 1 M.2.2.1.1 && Nat.ble (am_cat st0 + 13) M.2.2.1.2.1 && Nat.ble nc M.2.2.1.2.2.1 && Nat.ble ns M.2.2.1.2.2.2) with
    | false => rw [hcc] at hone; cases hone
    | true =>
    rw [hcc, cond_true] at hone
    simp only [Bool.and_eq_true] at hcc
    obtain ⟨⟨⟨c1, c2⟩, c3⟩, c4⟩ := hcc
    intro H locs L j r hj hR hS hl
    cases hj
    subst hRm
    exact va_mmin (ls := L) hx hb (hml.trans hl.1.symm) hown (hts _ hw) (hts _ hw2) (hts _ hw3) (hts _ hw4) (Nat.le_of_ble_eq_true c1) (by rw [am_cat_map]; exact Nat.le_of_ble_eq_true c2) (Nat.le_of_ble_eq_true c3) (Nat.le_of_ble_eq_true c4) hd (am_go_use hone hW H locs L hR hS hl)
  · cases hone
/-- the method that catches: its words and contract -/
def am_wsL (M : am_M) (hh : List (Nat × Nat × Nat × Nat)) : List Cond := Cond.codeWith M.1.2.1 M.1.2.2 M.2.1.1 M.2.1.2.1 hh :: am_ts
def am_MetL (l : Launch) (D : va_G) (cl : List vw_C) (B : Nat) (x : Nat → Nat) (ex : Bool) (TX : State → Prop) (M : am_M) (hh : List (Nat × Nat × Nat × Nat)) (as : List Value) (ks : List am_k) (h : am_H) (r : am_O) : Prop :=
  Met l M.1.2.1 (am_wsL M hh) (am_rm M) (am_Pc D cl B x ex TX as ks h) (am_Qc D cl B x ex r) M.2.2.1.2.2.1 M.2.2.1.2.2.2 (fun q => B ≤ q)
theorem am_s_look {idx : Nat} {hh : List (Nat × Nat × Nat × Nat)} (C : am_C p s m args meth c M) (hRm : R = am_rm M) (hB : B ≤ s.heap.size) (hTm : am_TXm B TX) (hT : TX s) (hk0 : an.2.2 = 0) (hd : decode M.1.2.2 pc = .ok (.invokestatic idx, 3))
    (w1 : Cond.methodLink M.1.2.1.cls idx G.2.2.2.2.2.1.1.2.1 ∈ am_ts) (w2 : Cond.static G.2.2.2.2.2.1.1.2.1 ∈ am_ts) (w3 : Cond.initialized G.2.2.2.2.2.1.1.2.1.cls ∈ am_ts) (w4 : Cond.codeWith G.2.2.2.2.2.1.1.2.1 G.2.2.2.2.2.1.1.2.2 G.2.2.2.2.2.1.2.1.1 G.2.2.2.2.2.1.2.1.2.1 hh ∈ am_ts)
    (w5 : G.2.2.2.2.2.1.1.2.1.cls ≠ "java/lang/invoke/MethodHandle" ∧ G.2.2.2.2.2.1.1.2.1.cls ≠ "java/lang/invoke/VarHandle" ∧ (parseMethodDescriptor G.2.2.2.2.2.1.1.2.1.desc).map (fun d => d.parameters.length) = some G.2.2.2.2.2.1.2.1.2.2)
    (hLk : ∀ (as : List Value) (ks : List am_k) (h : am_H) (r : am_O), G.2.2.2.2.2.2 as ks h = some r → am_MetL l D cl B x ex TX G.2.2.2.2.2.1 hh as ks h r)
    (hone : am_one am_φ ex G rc M ((pc, 3, .invokestatic idx, an, v0) :: cs, ls, st, ks, h, nc, ns) = some (.inl f')) (hW : am_Wf p l e R s m args below meth c D cl B x ex M.2.1.1 Q f') : am_Wf p l e R s m args below meth c D cl B x ex M.2.1.1 Q ((pc, 3, .invokestatic idx, an, v0) :: cs, ls, st, ks, h, nc, ns) := by
  have C0 := C
  obtain ⟨hx, hb, hml, hr, hown, hts, hlk, hnm, htn⟩ := C
  simp only [am_one, hk0] at hone
  unfold am_callL at hone
  cases hcc : Nat.beq (st.take G.2.2.2.2.2.1.2.1.2.2).length G.2.2.2.2.2.1.2.1.2.2 with
  | false => rw [hcc] at hone; cases hone
  | true =>
  rw [hcc, cond_true] at hone
  have c2 := Nat.eq_of_beq_eq_true hcc
  obtain ⟨hok, r, hrc, hlen, hgo⟩ := am_calls_use hone
  obtain ⟨k1, k2, k3, k4, k5, k6⟩ := am_okC_use hok
  have hmet := hLk _ _ _ _ hrc
  have hst2 : st = st.take G.2.2.2.2.2.1.2.1.2.2 ++ st.drop G.2.2.2.2.2.1.2.1.2.2 := (List.take_append_drop _ _).symm
  generalize hA0 : st.take G.2.2.2.2.2.1.2.1.2.2 = As at hst2 c2 hrc hmet k6
  generalize hB0 : st.drop G.2.2.2.2.2.1.2.1.2.2 = rest at hst2 k5 hgo
  intro H locs L j r' hj hR hS hl
  cases hj
  refine am_size (fun hsz => ?_)
  have hRel := hR
  obtain ⟨hK, dA, hP, hA, hz⟩ := hR
  have hstk : (st.map (am_c B x)) = ((As.reverse).map (am_c B x)).reverse ++ rest.map (am_c B x) := by
    rw [hst2, List.map_append, am_map_rev, List.reverse_reverse]
  have hPre : ∀ U : State, U.heap = H → s.WarmedH U.vm → am_Pc D cl B x ex TX As.reverse ks h ((As.reverse).map (am_c B x)).toArray U := fun U hU hWm => ⟨rfl, am_pre_heap hU hWm hRel hB hS hsz hTm hT⟩
  have hn : ((As.reverse).map (am_c B x)).length = G.2.2.2.2.2.1.2.1.2.2 := by rw [List.length_map, List.length_reverse]; exact c2
  have hW8 : 2 * (F0 m pc L (st.map (am_c B x))).monitorRoom + ((rest.map (am_c B x)).map fun v => v.category).sum ≤ 8 := lv_room (by rw [am_cat_map]; exact k5)
  subst hRm
  refine am_call_use (vx_runSW (own := M.1.2.1.cls) (Ts := am_ts) (cc := M.1.2.2) (nL := M.2.1.1) (hh := hh) ⟨hx, hb, hml, hown, hts⟩ hmet (vx_cwSW (ws' := am_ts) (bytes := G.2.2.2.2.2.1.1.2.2) (maxL := G.2.2.2.2.2.1.2.1.1) (ret := G.2.2.2.2.2.1.2.1.2.1) G.2.2.2.2.2.1.2.1.2.2 hts (am_good (fun w hw => ?_)) rfl rfl rfl w5 ⟨k1, k2⟩) ⟨am_Pc_blind hTm, hPre⟩ rfl hn hl.1 hstk hW8 hd ⟨k3, k4⟩) hS ?_
  · simp only [va_wsS, am_wsL, List.mem_append, List.mem_cons, List.not_mem_nil, or_false] at hw
    rcases hw with (rfl | rfl | rfl) | rfl | hw
    · exact w1
    · exact w2
    · exact w3
    · exact w4
    · exact hw
  intro H1 locs1 q1 q2
  have h1 := am_go_use hgo hW H1 locs1 L ⟨q1.1, q1.2.choose, q1.2.choose_spec.1, q1.2.choose_spec.2.1, fun hex => by have := hz hex; have h8 := hlen hex; rw [h8]; have h7 : s.heap.size + nc = B + ks.length := this; omega⟩ q2 hl
  have h2 : ((r.1.toList ++ rest).map (am_c B x)) = (r.1.map (am_c B x)).toList ++ rest.map (am_c B x) := by
    rw [List.map_append]
    cases r.1 <;> rfl
  rw [h2] at h1
  exact h1
end AMC
