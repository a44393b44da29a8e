/-! THE CLAIM OUT OF ONE WALK OF THE LAW'S BODY. Your part is whole_start (and what it stands on); all else here is the same for every law, but numbers. -/
def R_law : String := "AirBedLaw"
def lw_P (b : Addr) (xs : List Int32) (args : Array Value) (s : State) : Prop := args = #[.ref b] ∧ s.IntsAt b xs ∧ xs.length ≤ 3072 ∧ (Jvm.Cond.and given_1 narrow_1).before args s = true
def lz_Q (_ : Array Value) (s : State) (o : Outcome) (t : State) : Prop := o = .returned (some (.int 1)) ∧ Framed s o t [] 601024 7293034
def lw_Z (below : List Frame) (a : Array Value) (s : State) : State → Prop := fun t => ∃ o, t.status = .running ∧ Ended t below o ∧ lz_Q a s o t
/-- the law's own end, with 1 on the stack, nothing written that was there before, its room as the claim has it -/
theorem lw_ret {p : Program} {l : Launch} {e : Env} {s : State} {m : MethodId} {below : List Frame} {meth : Method} {c : Code} {b : Nat} (hx : p.tables.exec = Jvm.exec) (hb : c.code = code) (hr : meth.sig.returnType = ret) (hlocks : meth.locks = false) {pc : Nat} {H : Heap} {ls : Array Slot} (hdg : decode code pc = .ok (.ireturn, 1)) : W p l e room_1 s m #[Value.ref b] below meth c H [] 601024 7293034 (lw_Z below #[Value.ref b] s) (F0 m pc ls [.int 1]) := by
  intro T hT X
  obtain ⟨fs, hret, hrun, hended, hW, hframe⟩ := X.leave (v := some (.int 1)) (hlocks := hlocks) (fun h => by rw [hr] at h; cases h)
  have hmeth' : T.vm.method? m = some meth := X.method'
  refine ⟨T.setFrames fs, ?_, .returned (some (.int 1)), hrun, hended, rfl, ⟨_, rfl⟩, hW, hframe⟩
  jvm_step X.here [X.here.top, hx, hb, hdg, hmeth', hr, ret, narrow_b1]
  (try refine ⟨rfl, ?_⟩); (try refine ⟨rfl, ?_⟩)
  first | (intro acts; rw [hret _ acts rfl rfl rfl]) | rw [hret _ _ rfl rfl rfl]
  exact Steps.refl _
/-- what holds at the law's entry: the machine, the code, the tables' words (any of lw_tbl by 'hts w (by decide +kernel)'), the script of L ints xs at the cell b, what the Statement gives of the start (any of its parts by flat_of_before) -/
def lw_At (p : Program) (s : State) (m : MethodId) (meth : Method) (c : Code) (b L : Nat) (xs : Nat → Int32) : Prop :=
  p.tables.exec = Jvm.exec ∧ c.code = code ∧ meth.sig.returnType = ret ∧ c.maxLocals = 7 ∧ s.vm.findClass R_law = some m.cls ∧ (∀ w ∈ lw_tbl, w.before #[Value.ref b] s = true) ∧ va_X b L xs s s.heap ∧ b < s.heap.size ∧ meth.locks = false ∧ (Jvm.Cond.and given_1 narrow_1).before #[Value.ref b] s = true
/-! ===== WHAT STANDS BESIDE THE HEAP ===== -/
def am_TXd (B : Nat) (x : Nat → Nat) (V : Nat) (U : State) : Prop := (∀ w ∈ am_tn, w.before #[] U = true) ∧ vk_R "AirBed$Reader" 29 am_words (x 1) U ∧ am_TS B (x 1) V U ∧ am_TL B U
theorem am_tc_dc {w : Cond} (h : w ∈ am_tc) : am_dc w = true := (List.mem_filter.mp h).2
theorem am_tc_tbl {w : Cond} (h : w ∈ am_tc) : w ∈ lw_tbl := (List.mem_filter.mp h).1
theorem am_dc_moved {w : Cond} (h : am_dc w = true) {U U' : State} (hv : U.vm = U'.vm ∨ U.WarmedH U'.vm) (hw : w.before #[] U = true) : w.before #[] U' = true := by
  cases w with
  | declares x =>
    rcases hv with e | hW
    · exact va_Nw.same rfl e hw
    · exact va_Nw.warmD hW hw
  | castable C T =>
    rcases hv with e | hW
    · exact va_Nw.same rfl e hw
    · exact va_Nw.warmC hW hw
  | _ => cases h
theorem am_dc_of {w : Cond} (h : am_dc w = true) {a : Array Value} {U : State} (hw : w.before a U = true) : w.before #[] U = true := by
  cases w with
  | declares x => exact va_Nw.of rfl hw
  | castable C T => exact va_Nw.of rfl hw
  | _ => cases h
theorem am_TXd_m (B : Nat) (x : Nat → Nat) (V : Nat) : am_TXm B (am_TXd B x V) := by
  intro U U' hv hh ht
  obtain ⟨t1, t2, t3, t4, t5, ⟨sa, t6⟩, ⟨sb, t8⟩, t9, t7⟩ := ht
  have hal : U.vm.Alike U'.vm := by
    rcases hv with e | hW
    · rw [e]; exact Vm.Alike.refl _
    · exact hW.alike
  have hk : ∀ a : Nat, a < U.heap.size → ¬ (fun q => B ≤ q) a → U'.heap[a]? = U.heap[a]? := fun a _ h => hh a (Nat.not_le.mp h)
  have vr : ∀ {own : String} {k : Nat} {tx : String} {a : Nat}, vk_R own k tx a U → vk_R own k tx a U' := by
    intro own k tx a h
    rcases hv with e | hW
    · exact vk_R.same e.symm h
    · exact vk_R.warm hW h
  refine ⟨fun w hw => ?_, vr t2, am_TS_moved hal hh t3, (vx_Zq.moved hal t4).kept hk, (vx_Zq.moved hal t5).kept hk, ⟨sa, vr t6⟩, ⟨sb, vr t8⟩, fun a b h1 h2 => (hal.assignable a b).trans (t9 a b ((hal.findClass _ _).symm.trans h1) ((hal.findClass _ _).symm.trans h2)), fun w hw => am_dc_moved (am_tc_dc hw) hv (t7 w hw)⟩
  have hw1 := t1 w hw
  have hn := am_tn_nest hw
  clear hw
  cases w with
  | fieldLinkNest a i b n d h9 =>
    rcases hv with e | hW
    · exact va_Nw.same rfl e hw1
    · exact va_Nw.warmF hW hw1
  | methodLinkNest a i y h9 =>
    rcases hv with e | hW
    · exact va_Nw.same rfl e hw1
    · exact va_Nw.warmM hW hw1
  | arrayOver ty =>
    cases ty with
    | object C => exact va_AO.moved hal hw1
    | _ => cases hn
  | _ => cases hn
theorem am_TXd_N (B : Nat) (x : Nat → Nat) (V : Nat) : am_TN (am_TXd B x V) := by
  intro U a ht w hw
  have hw1 := ht.1 w hw
  have hn := am_tn_nest hw
  clear hw
  cases w with
  | fieldLinkNest b i c n d h9 => exact va_Nw.use rfl hw1
  | methodLinkNest b i y h9 => exact va_Nw.use rfl hw1
  | arrayOver ty =>
    cases ty with
    | object C => exact va_AO.use hw1
    | _ => cases hn
  | _ => cases hn
def am_nl : List Cond := flatC (Jvm.Cond.and given_1 narrow_1)
abbrev am_tm : Term := .string "AirBed$Reader" 29
set_option maxRecDepth 1000000 in
theorem am_el_all : (List.range 120).all (fun j => decide (Cond.eq (.elem (.field am_tm "java/lang/String" "value" "[B") (.int (Int32.ofNat j))) (.int (am_txt j)) ∈ am_nl)) = true := by decide +kernel
set_option maxRecDepth 1000000 in
theorem am_nl1 : Cond.exactly am_tm "java/lang/String" ∈ am_nl ∧ Cond.eq (.field am_tm "java/lang/String" "coder" "B") (.int 0) ∈ am_nl ∧ Cond.arrayOf (.field am_tm "java/lang/String" "value" "[B") .byte ∈ am_nl ∧ Cond.eq (.length (.field am_tm "java/lang/String" "value" "[B")) (.int (Int32.ofNat 120)) ∈ am_nl := by decide +kernel
set_option maxRecDepth 1000000 in
theorem am_nl2 : Cond.eq (.static "java/lang/String" "COMPACT_STRINGS" "Z") (.int 1) ∈ am_nl ∧ Cond.isRef (.static "jdk/internal/util/Preconditions" "SIOOBE_FORMATTER" "Ljava/util/function/BiFunction;") ∈ am_nl ∧ Cond.isRef (.static Bundle.tN "UNASSIGNED_STACK" Bundle.steD) ∈ am_nl ∧ Cond.isRef (.static Bundle.tN "SUPPRESSED_SENTINEL" Bundle.listD) ∈ am_nl ∧ Cond.exactly (.string "AirBed" 141) "java/lang/String" ∈ am_nl ∧ Cond.exactly (.string "AirBed" 166) "java/lang/String" ∈ am_nl ∧ Cond.not (Cond.castable ag_NS am_IX) ∈ am_nl := by decide +kernel
def am_inT (w : Cond) : Bool := lw_tbl.any (fun z => decide (z = w))
theorem am_inT_ok {w : Cond} (h : am_inT w = true) : w ∈ lw_tbl := by
  obtain ⟨z, hz, e⟩ := List.any_eq_true.mp h
  have := of_decide_eq_true e
  subst this
  exact hz
set_option maxRecDepth 1000000 in
theorem am_nl3 : ([.laysStatic "java/lang/String" "COMPACT_STRINGS" "Z", .initialized "java/lang/String", .laysStatic "jdk/internal/util/Preconditions" "SIOOBE_FORMATTER" "Ljava/util/function/BiFunction;", .initialized "jdk/internal/util/Preconditions", .laysStatic Bundle.tN "UNASSIGNED_STACK" Bundle.steD, .laysStatic Bundle.tN "SUPPRESSED_SENTINEL" Bundle.listD, .initialized Bundle.tN, .stringRef "AirBed$Reader" 29 am_words, .stringRef "AirBed" 141 "no such blower", .stringRef "AirBed" 166 "no such what"] : List Cond).all am_inT = true := by decide +kernel
theorem am_1 {P : Nat → Prop} (h : P 0) : ∀ i : Nat, i < 1 → P i := by
  intro i hi
  have : i = 0 := by omega
  subst this
  exact h
/-- at the law's entry all of it stands -/
theorem am_TX_at {s : State} {b : Nat} (hts : ∀ w ∈ lw_tbl, w.before #[Value.ref b] s = true) (hgv : (Jvm.Cond.and given_1 narrow_1).before #[Value.ref b] s = true) : ∃ K V : Nat, ∀ x : Nat → Nat, x 1 = K → am_TXd s.heap.size x V s := by
  have hs := flat_of_before _ hgv
  have hA : ∀ a : Nat, a < s.heap.size → ¬ (fun q => s.heap.size ≤ q) a := fun a h q => absurd h (Nat.not_lt.mpr q)
  have w : ∀ c ∈ ([.laysStatic "java/lang/String" "COMPACT_STRINGS" "Z", .initialized "java/lang/String", .laysStatic "jdk/internal/util/Preconditions" "SIOOBE_FORMATTER" "Ljava/util/function/BiFunction;", .initialized "jdk/internal/util/Preconditions", .laysStatic Bundle.tN "UNASSIGNED_STACK" Bundle.steD, .laysStatic Bundle.tN "SUPPRESSED_SENTINEL" Bundle.listD, .initialized Bundle.tN, .stringRef "AirBed$Reader" 29 am_words, .stringRef "AirBed" 141 "no such blower", .stringRef "AirBed" 166 "no such what"] : List Cond), c.before #[Value.ref b] s = true := fun c hc => hts c (am_inT_ok (List.all_eq_true.mp am_nl3 c hc))
  obtain ⟨n1, n2, n3, n4⟩ := am_nl1
  obtain ⟨m1, m2, m3, m4, m5, m6, m7⟩ := am_nl2
  obtain ⟨adK, adV, hS, hev⟩ := vk_Sof (args := #[Value.ref b]) (s := s) (N := 1) (tm := fun _ => am_tm) (len := [120]) (byt := [[98, 101, 100, 32, 32, 32, 98, 108, 111, 119, 101, 114, 116, 117, 114, 110, 32, 32, 112, 117, 109, 112, 32, 32, 108, 101, 97, 107, 32, 32, 116, 114, 105, 97, 108, 32, 115, 108, 105, 112, 32, 32, 115, 101, 101, 100, 32, 32, 108, 97, 119, 32, 32, 32, 108, 111, 115, 101, 32, 32, 102, 105, 108, 108, 32, 32, 108, 111, 97, 100, 32, 32, 102, 117, 108, 108, 32, 32, 114, 111, 111, 109, 32, 32, 111, 112, 101, 110, 32, 32, 115, 101, 99, 111, 110, 100, 98, 114, 101, 97, 116, 104, 111, 114, 32, 32, 32, 32, 97, 110, 100, 32, 32, 32, 110, 111, 116, 32, 32, 32]]) (A := fun q => s.heap.size ≤ q) (am_1 (by decide)) (am_1 (hs _ n1)) (am_1 (hs _ n2)) (am_1 (hs _ n3)) (am_1 (hs _ n4)) (am_1 (fun j hj => hs _ (of_decide_eq_true (List.all_eq_true.mp am_el_all j (List.mem_range.mpr hj))))) (fun i j hi hj hij => absurd (by omega : i = j) hij) hA
  obtain ⟨q1, q2, q3, q4⟩ := hS.1 0 (by decide)
  obtain ⟨sa, _, _, _, e1, -⟩ := Cond.exactly_spec (args := #[Value.ref b]) (first := s) (o := none) (s := s) (idx := []) (t := .string "AirBed" 141) (cls := "java/lang/String") (hs _ m5)
  obtain ⟨sb, _, _, _, e2, -⟩ := Cond.exactly_spec (args := #[Value.ref b]) (first := s) (o := none) (s := s) (idx := []) (t := .string "AirBed" 166) (cls := "java/lang/String") (hs _ m6)
  have hnc : ag_NC s := by
    intro a2 b2 h1 h2
    have h3 := hs _ m7
    simp only [Cond.before, Cond.holds, Cond.value, h1, h2] at h3
    simpa using h3
  refine ⟨adK 0, adV 0, fun x hx => ⟨fun c hc => ?_, ?_, ⟨?_, ?_, ?_, q4, va_Zof (w _ (by simp)) (w _ (by simp)) (va_eqt (hs _ m1)) hA, va_Zqof (w _ (by simp)) (w _ (by simp)) (hs _ m2) hA⟩, vx_Zqof (w _ (by simp)) (w _ (by simp)) (hs _ m3) hA, vx_Zqof (w _ (by simp)) (w _ (by simp)) (hs _ m4) hA, ⟨sa, vk_R.of (w _ (by simp)) e1⟩, ⟨sb, vk_R.of (w _ (by simp)) e2⟩, hnc, fun c hc => am_dc_of (am_tc_dc hc) (hts c (am_tc_tbl hc))⟩⟩
  · have h1 := hts c (am_tn_tbl hc)
    have hn := am_tn_nest hc
    clear hc
    cases c with
    | fieldLinkNest a i c n d h9 => exact va_Nw.of rfl h1
    | methodLinkNest a i y h9 => exact va_Nw.of rfl h1
    | arrayOver ty =>
      cases ty with
      | object C => exact va_AO.of h1
      | _ => cases hn
    | _ => cases hn
  · rw [hx]; exact vk_R.of (w _ (by simp)) (hev 0 (by decide))
  · rw [hx]; exact q1
  · rw [hx]; exact q2
  · rw [hx]; exact q3
section AMRF
variable {l : Launch} {D : va_G} {B : Nat} {x : Nat → Nat} {ex : Bool} {TX : State → Prop} {scr : Option (Nat × (Nat → Int32))} {lk : List Value → List am_k → am_H → Option am_O} {M : am_M} {p : Program} {e : Env} {s : State} {m : MethodId} {args : Array Value} {below : List Frame} {meth : Method} {c : Code} {Q : State → Prop}
/-- the law's end -/
theorem am_law_fin {below : List Frame} {b : Nat} (C : am_C p s m #[Value.ref b] meth c am_mLaw) {r : am_O} (hr1 : r.1 = some (.int 1)) (f : am_F) (hend : am_end am_mLaw f = some r) (hf : ∀ i ∈ f.1, am_okI am_cls (am_P1 scr lk) am_mLaw i) :
    am_Wf p l e (am_rm am_mLaw) s m #[Value.ref b] below meth c D am_cls s.heap.size x ex am_mLaw.2.1.1 (lw_Z below #[Value.ref b] s) f := by
  obtain ⟨fc, ls, st, ks, h, nc, ns⟩ := f
  cases fc with
  | nil => cases hend
  | cons i cs =>
    obtain ⟨hd, hi⟩ := hf i List.mem_cons_self
    obtain ⟨pc, len, ins, an, v0⟩ := i
    obtain ⟨hx, hb, hml, hr, hown, hts, hlk, hnm, htn⟩ := C
    dsimp only at hd hi
    have key : ∀ (v : Option Value), am_ret am_mLaw v ks h nc ns = some r → r = (v, ks, h) ∧ nc ≤ 601024 ∧ ns ≤ 7293034 := by
      intro v hv
      unfold am_ret at hv
      cases h2 : (Nat.ble nc am_mLaw.2.2.1.2.2.1 && Nat.ble ns am_mLaw.2.2.1.2.2.2) with
      | false => rw [h2] at hv; cases hv
      | true =>
        rw [h2, cond_true] at hv
        simp only [Bool.and_eq_true] at h2
        exact ⟨(Option.some.inj hv).symm, Nat.le_of_ble_eq_true h2.1, Nat.le_of_ble_eq_true h2.2⟩
    cases ins with
    | ireturn =>
      dsimp only at hi
      subst hi
      simp only [am_end] at hend
      split at hend
      · rename_i v
        split at hend
        · rename_i ty hty
          cases h1 : am_fit ty (.int v) with
          | false => rw [h1] at hend; cases hend
          | true =>
            rw [h1, cond_true] at hend
            obtain ⟨rfl, k1, k2⟩ := key _ hend
            have hv : v = 1 := by
              have := Option.some.inj hr1
              exact Value.int.inj this
            subst hv
            intro H locs L j r' hj hR hS hl
            cases hj
            refine va_forget (fun q hq => hS.2.2 q hq) ?_
            refine W.widen k1 k2 ?_
            exact lw_ret hx hb hr hlk hd
        · cases hend
      · cases hend
    | lreturn =>
      simp only [am_end] at hend
      split at hend
      · split at hend
        · obtain ⟨rfl, -, -⟩ := key _ hend
          cases hr1
        · cases hend
      · cases hend
    | return_ =>
      simp only [am_end] at hend
      split at hend
      · split at hend
        · obtain ⟨rfl, -, -⟩ := key _ hend
          cases hr1
        · cases hend
      · cases hend
    | _ => simp [am_end] at hend
end AMRF
