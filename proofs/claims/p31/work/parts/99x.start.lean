/-! ===== THE LAW'S FIRST STEPS: objects are made ===== -/
section AMNW
variable {ex : Bool} {G : am_G} {rc : am_rec} {M M' : am_M} {pc len : Nat} {z : Int} {ls : am_L} {st : List Value} {ks : List am_k} {h h' : am_H} {nc ns nc' ns' : Nat}
theorem am_o_new {idx a b c n k : Nat} (hk : (G.2.1 a).length = k) (hn : ks.length = n) (hr : (Nat.ble (nc + 1) M.2.2.1.2.2.1 && Nat.ble (ns + k) M.2.2.1.2.2.2) = true) (hh : am_mk h n (fun j => defaultValue ((G.2.1 a).getD j .int)) = h') (hc : nc + 1 = nc') (hs : ns + k = ns') :
    ∀ cs, am_one am_φ true G rc M ((pc, len, .new idx, (a, b, c), z) :: cs, ls, st, ks, h, nc, ns) = am_go (pc, len, .new idx, (a, b, c), z) cs ls (.ref n :: st) (ks ++ [.inl a]) h' nc' ns' := by
  intro cs
  subst hn; subst hh; subst hc; subst hs; subst hk
  show am_new G M true _ cs ls st ks h nc ns = _
  unfold am_new
  simp only [Bool.true_and, hr, cond_true]
theorem am_o_newA {t : ArrayType} {an : Nat × Nat × Nat} {n : Nat} {v : Int32} {ty : FieldType} {w : Nat} (ht : Op.newarray.typeOf t = ty) (h0 : ¬ v < 0) (hw : v.toNatClampNeg = w) (hn : ks.length = n) (hr : (Nat.ble (nc + 1) M.2.2.1.2.2.1 && Nat.ble (ns + w) M.2.2.1.2.2.2 && Nat.ble (w * 8) 536870912) = true) (hh : am_mk h n (fun _ => defaultValue ty) = h') (hc : nc + 1 = nc') (hs : ns + w = ns') :
    ∀ cs, am_one am_φ true G rc M ((pc, len, .newarray t, an, z) :: cs, ls, .int v :: st, ks, h, nc, ns) = am_go (pc, len, .newarray t, an, z) cs ls (.ref n :: st) (ks ++ [.inr (ty, w)]) h' nc' ns' := by
  intro cs
  subst hn; subst hh; subst hc; subst hs; subst hw; subst ht
  show am_newA M true (Op.newarray.typeOf t) _ cs ls (.int v :: st) ks h nc ns = _
  unfold am_newA
  simp only [if_neg h0, Bool.true_and, hr, cond_true]
theorem am_o_init {idx a b c o : Nat} {rest : List Value} {ks' : List am_k} (hM : G.1 a = some M') (hp : M'.2.1.2.2 = 0) (hk : ks[o]? = some (.inl M'.1.1)) (hok : am_okC M M' [.ref o] rest nc ns = true) (hrc : rc a [.ref o] ks h = some (none, ks', h')) (hl : Nat.beq ks'.length (ks.length + M'.2.2.1.2.2.1) = true) (hc : nc + M'.2.2.1.2.2.1 = nc') (hs : ns + M'.2.2.1.2.2.2 = ns') :
    ∀ cs, am_one am_φ true G rc M ((pc, len, .invokespecial idx, (a, b, c + 1), z) :: cs, ls, .ref o :: rest, ks, h, nc, ns) = am_go (pc, len, .invokespecial idx, (a, b, c + 1), z) cs ls rest ks' h' nc' ns' := by
  intro cs
  subst hc; subst hs
  show am_callV true G M rc _ cs ls (.ref o :: rest) ks h nc ns = _
  unfold am_callV
  simp only [hM, hp, List.drop_zero, List.take_zero, hk, Nat.beq_refl, List.length_nil, Bool.and_self, cond_true, List.reverse_nil]
  unfold am_calls
  simp only [hok, cond_true, hrc, Bool.not_true, Bool.false_or, hl]
  rfl
end AMNW
theorem am_ks_end : am_ks0.take 202 ++ [.inr (.long, 1)] = am_ks0 := by decide +kernel
theorem am_rA_run (scr : Option (Nat × (Nat → Int32))) (lk : List Value → List am_k → am_H → Option am_O) : am_rc true 30000 (am_P1 scr lk) 0 [.ref 0] [.inl 0] am_hA0 = some (none, am_ksA, am_hA) := by
  have h := am_rA_ok
  unfold am_rA at h
  rw [am_ff_eq] at h
  exact h
theorem am_rB_run (scr : Option (Nat × (Nat → Int32))) (lk : List Value → List am_k → am_H → Option am_O) : am_rc true 30000 (am_P1 scr lk) 142 [.ref 164] (am_ksA ++ [.inl 12]) am_hB0 = some (none, am_ks0.take 202, am_hB) := by
  have h := am_rB_ok
  unfold am_rB at h
  rw [am_ff_eq] at h
  exact h
set_option maxRecDepth 100000 in
set_option maxHeartbeats 4000000 in
/-- from the entry, for every script of at most 3072 ints, the law comes to its end with true -/
theorem whole_start {p : Program} {e : Env} {s : State} {m : MethodId} {below : List Frame} {meth : Method} {c : Code} (l : Launch) (hl0 : l.stackTraces = false) {b L : Nat} {xs : Nat → Int32} (hL : L ≤ 3072) (hnm : meth.name = "law") (C0 : lw_At p s m meth c b L xs) : W p l e room_1 s m #[Value.ref b] below meth c s.heap [] 0 0 (lw_Z below #[Value.ref b] s) (entryFrame m ([Value.ref b] : List Value).toArray 7) := by
  obtain ⟨hx, hb, hr, hml, hown, hts, hX, hbl, hlocks, hgv⟩ := id C0
  obtain ⟨K, V, hTX⟩ := am_TX_at hts hgv
  have hT := hTX (fun k => if k = 0 then b else K) rfl
  generalize hxd : (fun k => if k = 0 then b else K : Nat → Nat) = x at hT
  have hx0 : x 0 = b := by rw [← hxd]; rfl
  have hTm := am_TXd_m s.heap.size x V
  have hTN := am_TXd_N s.heap.size x V
  have hTx : am_TxOK l s.heap.size x am_txt (am_TXd s.heap.size x V) := am_TxOK_of (V := V) hTm (fun U h => h.2.2.1) (fun U h => h.2.1)
  have hKn : ∀ k : Nat, ∃ q : ClassId × (Nat → Nat), ∀ r : vw_C, am_cls[k]? = some r → u_Kn s r.1 r.2.1 r.2.2 q.1 q.2 := by
    intro k
    cases hk : am_cls[k]? with
    | none => exact ⟨(0, fun _ => 0), fun r h => by cases h⟩
    | some r =>
      obtain ⟨g1, g2, g3, g4, g5, g6, g7⟩ := am_okG_ok none (fun _ _ _ => none) k r hk
      obtain ⟨cC, iS, h⟩ := u_known (C := r.1) (T := r.2.1) (N := r.2.2) (n := r.2.2) hts (fun w hw => am_ts_tbl (g5 w hw)) (hts _ (am_ts_tbl g6))
      exact ⟨(cC, iS), fun r' h' => by cases h'; exact h⟩
  obtain ⟨dd, hdd⟩ := Classical.axiomOfChoice hKn
  have hK : va_K (fun k => (dd k).1, fun k => (dd k).2) am_cls [] s := ⟨fun k q hq => hdd k q hq, fun k q h => by simp at h⟩
  have C : am_C p s m #[Value.ref b] meth c am_mLaw := ⟨hx, hb, hml, hr, hown, fun w hw => hts w (am_ts_tbl hw), hlocks, hnm, fun w hw => hts w (am_tn_tbl hw)⟩
  have hscr : ∀ lk, am_scr (am_P1 (some (L, xs)) lk) s.heap.size x s := by
    intro lk L' xs' h
    cases h
    rw [hx0]
    exact ⟨hX, hbl, Nat.not_le.mpr hbl⟩
  have hBB : s.heap.size ≤ s.heap.size := Nat.le_refl _
  have hl := lv_entry ([Value.ref b]) (n := 7) (Nat.le_of_ble_eq_true rfl)
  rw [lg_entry_eq]
  have hrel0 : am_Rel (fun k => (dd k).1, fun k => (dd k).2) am_cls s.heap.size x true [] (fun _ _ => .int 0) (s.heap.size + 0) s s.heap := ⟨hK, fun _ => 0, fun k q h => by simp [am_W] at h, fun i ty k h => by simp at h, fun _ => rfl⟩
  have hM1 := am_okLaw (some (L, xs)) (fun _ _ _ => none)
  have hM2 := am_okLaw (some (L, xs)) am_lk
  have main : am_Wf p l e (am_rm am_mLaw) s m #[Value.ref b] below meth c (fun k => (dd k).1, fun k => (dd k).2) am_cls s.heap.size x true am_mLaw.2.1.1 (lw_Z below #[Value.ref b] s) (am_mLaw.2.2.2.drop 0, lv_args 0 [.retAddr 0], [], [], (fun _ _ => .int 0), 0, 0) := by
    have go : ∀ {k : Nat} {i : am_I} {ls : am_L} {st : List Value} {ks : List am_k} {h : am_H} {nc ns : Nat} (ls' : am_L) (st' : List Value) (ks' : List am_k) (h' : am_H) (nc' ns' : Nat), am_nxt am_mLaw k i → (∀ cs, am_one am_φ true (am_P1 (some (L, xs)) (fun _ _ _ => none)) (am_rc true 30000 (am_P1 (some (L, xs)) (fun _ _ _ => none))) am_mLaw (i :: cs, ls, st, ks, h, nc, ns) = am_go i cs ls' st' ks' h' nc' ns') →
        am_Wf p l e (am_rm am_mLaw) s m #[Value.ref b] below meth c (fun k => (dd k).1, fun k => (dd k).2) am_cls s.heap.size x true am_mLaw.2.1.1 (lw_Z below #[Value.ref b] s) (am_mLaw.2.2.2.drop (k + 1), ls', st', ks', h', nc', ns') →
        am_Wf p l e (am_rm am_mLaw) s m #[Value.ref b] below meth c (fun k => (dd k).1, fun k => (dd k).2) am_cls s.heap.size x true am_mLaw.2.1.1 (lw_Z below #[Value.ref b] s) (am_mLaw.2.2.2.drop k, ls, st, ks, h, nc, ns) := by
      intro k i ls st ks h nc ns ls' st' ks' h' nc' ns' hn h2 hW
      have hf : ∀ j ∈ am_mLaw.2.2.2.drop k, am_okI am_cls (am_P1 (some (L, xs)) (fun _ _ _ => none)) am_mLaw j := fun j hj => hM1 j (List.mem_of_mem_drop hj)
      rw [hn.1] at hf ⊢
      exact am_stepR (n := 30000) hTm hTN hTx hM1 (fun _ _ _ _ _ _ h9 => by cases h9) C (hscr _) hT hBB hf ((h2 _).trans (am_go_ok hn.2)) hW
    refine go [(0, .retAddr 0)] [.ref 0] [.inl 0] am_hA0 1 16 (am_nxt_of (i := (0, 3, .new 8, (0, 141, 0), 0)) (by decide +kernel)) (am_o_new (k := 16) rfl rfl (by decide +kernel) rfl rfl rfl) ?_
    refine go [(0, .retAddr 0)] [.ref 0, .ref 0] [.inl 0] am_hA0 1 16 (am_nxt_of (i := (3, 1, .dup, (0, 0, 0), 0)) (by decide +kernel)) (fun _ => rfl) ?_
    refine go [(0, .retAddr 0)] [.ref 0] am_ksA am_hA 164 2134 (am_nxt_of (i := (4, 3, .invokespecial 17, (0, 143, 3), 0)) (by decide +kernel)) (am_o_init (M' := am_m0) rfl rfl rfl (by decide +kernel) (am_rA_run _ _) (by decide +kernel) rfl rfl) ?_
    refine go [(1, .ref 0), (0, .retAddr 0)] [] am_ksA am_hA 164 2134 (am_nxt_of (i := (7, 1, .astore_n 1, (0, 0, 0), 0)) (by decide +kernel)) (fun _ => rfl) ?_
    refine go [(1, .ref 0), (0, .retAddr 0)] [.ref 164] (am_ksA ++ [.inl 12]) am_hB0 165 2215 (am_nxt_of (i := (8, 3, .new 18, (12, 1351, 0), 0)) (by decide +kernel)) (am_o_new (k := 81) rfl (by decide +kernel) (by decide +kernel) rfl rfl rfl) ?_
    refine go [(1, .ref 0), (0, .retAddr 0)] [.ref 164, .ref 164] (am_ksA ++ [.inl 12]) am_hB0 165 2215 (am_nxt_of (i := (11, 1, .dup, (0, 0, 0), 0)) (by decide +kernel)) (fun _ => rfl) ?_
    refine go [(1, .ref 0), (0, .retAddr 0)] [.ref 164] (am_ks0.take 202) am_hB 202 4391 (am_nxt_of (i := (12, 3, .invokespecial 20, (142, 1353, 3), 0)) (by decide +kernel)) (am_o_init (M' := am_m142) rfl rfl (by decide +kernel) (by decide +kernel) (am_rB_run _ _) (by decide +kernel) rfl rfl) ?_
    refine go [(2, .ref 164), (1, .ref 0), (0, .retAddr 0)] [] (am_ks0.take 202) am_hB 202 4391 (am_nxt_of (i := (15, 1, .astore_n 2, (0, 0, 0), 0)) (by decide +kernel)) (fun _ => rfl) ?_
    refine go [(2, .ref 164), (1, .ref 0), (0, .retAddr 0)] [.int 1] (am_ks0.take 202) am_hB 202 4391 (am_nxt_of (i := (16, 1, .iconst 1, (0, 0, 0), 0)) (by decide +kernel)) (fun _ => rfl) ?_
    refine go [(2, .ref 164), (1, .ref 0), (0, .retAddr 0)] [.ref 202] (am_ks0.take 202 ++ [.inr (.long, 1)]) am_h0 203 4392 (am_nxt_of (i := (17, 2, .newarray .long, (0, 0, 197), 0)) (by decide +kernel)) (am_o_newA rfl (by decide) (by decide) (by decide +kernel) (by decide +kernel) rfl rfl rfl) ?_
    rw [am_ks_end]
    refine go [(3, .ref 202), (2, .ref 164), (1, .ref 0), (0, .retAddr 0)] [] am_ks0 am_h0 203 4392 (am_nxt_of (i := (19, 1, .astore_n 3, (0, 0, 0), 0)) (by decide +kernel)) (fun _ => rfl) ?_
    refine go [(3, .ref 202), (2, .ref 164), (1, .ref 0), (0, .retAddr 0)] [.int 0] am_ks0 am_h0 203 4392 (am_nxt_of (i := (20, 1, .iconst 0, (0, 0, 0), 0)) (by decide +kernel)) (fun _ => rfl) ?_
    refine go [(4, .int 0), (3, .ref 202), (2, .ref 164), (1, .ref 0), (0, .retAddr 0)] [] am_ks0 am_h0 203 4392 (am_nxt_of (i := (21, 2, .istore 4, (0, 0, 0), 0)) (by decide +kernel)) (fun _ => rfl) ?_
    have hend : am_Ek false (am_P1 (some (L, xs)) am_lk) am_m254 13 [(4, .int 0), (3, .ref 202), (2, .ref 164), (1, .ref 0), (0, .retAddr 0)] [] am_ks0 am_h0 203 4392 (fun v _ _ => v = some (.int 1)) := by
      exact ag_loop ax_X ax_Y ag_LK_ok hL 513 0 203 4392 0 0 am_h0 (by decide) (by decide) (by decide) (by decide) (by decide) ag_G0 gd_h0 ax_0
    obtain ⟨n, r, hrun, hr1⟩ := hend
    have h2 := am_runQ (D := (fun k => (dd k).1, fun k => (dd k).2)) (ex := false) (Q := lw_Z below #[Value.ref b] s) (below := below) (e := e) hTm hTN hTx hM2 (ag_lk_met hl0 hTm hTN hTx (fun U h => h.2.2.2)) C (hscr _) hT hBB (r := r) (fun f h1 h2 => am_law_fin C hr1 f h1 h2) n _ (fun i hi => hM2 i (List.mem_of_mem_drop hi)) hrun
    intro H locs L9 j r' hj hR hS hl9
    exact h2 H locs L9 j r' hj ⟨hR.1, hR.2.choose, hR.2.choose_spec.1, hR.2.choose_spec.2.1, fun h9 => by cases h9⟩ hS hl9
  cases hcd : am_mLaw.2.2.2.drop 0 with
  | nil => rw [(am_nxt_of (M := am_m254) (k := 0) (i := (0, 3, .new 8, (0, 141, 0), 0)) (by decide +kernel)).1] at hcd; cases hcd
  | cons j rr =>
    rw [hcd] at main
    have hj : j.1 = 0 := by
      have h9 := (am_nxt_of (M := am_m254) (k := 0) (i := (0, 3, .new 8, (0, 141, 0), 0)) (by decide +kernel)).1
      rw [hcd] at h9
      have := (List.cons.inj h9).1
      rw [this]
    have h1 := main s.heap [] _ j rr rfl hrel0 va_S.rf (by
      show lv_has _ 7 (am_ls s.heap.size x (lv_args 0 [.retAddr 0]))
      have h9 : am_ls s.heap.size x (lv_args 0 [.retAddr 0]) = lv_args 0 [Value.ref b] := by rw [← hx0]; rfl
      rw [h9]
      exact hl)
    rw [hj] at h1
    exact h1
