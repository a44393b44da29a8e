/-! ===== WHERE AN INSTRUCTION GOES ON: in the method's own code ===== -/
def am_sub (K : List am_I → Prop) (r : am_R) : Prop := ∀ f', r = some (.inl f') → K f'.1
section AMQ
variable {K : List am_I → Prop} {ex : Bool} {G : am_G} {rc : am_rec} {M M' : am_M} {i : am_I} {cs : List am_I} {ls : am_L} {st : List Value} {ks : List am_k} {h : am_H} {nc ns : Nat}
theorem am_sub_none : am_sub K none := fun _ h => by cases h
theorem am_sub_go {ls : am_L} {st : List Value} {ks : List am_k} {h : am_H} {nc ns : Nat} (hK : K cs) : am_sub K (am_go i cs ls st ks h nc ns) := by
  intro f' hf
  unfold am_go am_nx at hf
  split at hf
  · cases hf
  · rename_i j r
    cases hb : Nat.beq j.1 (i.1 + i.2.1) with
    | false => rw [hb] at hf; cases hf
    | true => rw [hb] at hf; cases hf; exact hK
theorem am_sub_cond {b : Bool} {r : am_R} (h : am_sub K r) : am_sub K (cond b r none) := by
  cases b
  · exact am_sub_none
  · exact h
theorem am_sub_ite {p : Prop} [Decidable p] {r : am_R} (h : am_sub K r) : am_sub K (if p then none else r) := by
  split
  · exact am_sub_none
  · exact h
theorem am_sub_jp {a : Nat} {t : Int} (hK : ∀ a, K (M.2.2.2.drop a)) : am_sub K (am_jp M a t ls st ks h nc ns) := by
  intro f' hf
  unfold am_jp at hf
  split at hf
  · cases hf
  · rename_i j r hd
    split at hf
    · cases hf
      have := hK a
      rw [hd] at this
      exact this
    · cases hf
theorem am_sub_sw {t : Int} (hK : ∀ t, K (am_seek M.2.2.2 t)) : am_sub K (am_sw M t ls st ks h nc ns) := by
  intro f' hf
  unfold am_sw at hf
  split at hf
  · cases hf
  · rename_i j r hd
    cases hf
    have := hK t
    rw [hd] at this
    exact this
theorem am_sub_br {b : Bool} {off : Int} {st : List Value} (h1 : K cs) (h2 : ∀ a, K (M.2.2.2.drop a)) : am_sub K (am_br M i cs b off ls st ks h nc ns) := by
  unfold am_br
  cases b
  · exact am_sub_go h1
  · exact am_sub_jp h2
theorem am_sub_ix {j : Int32} {n : Nat} {k : Nat → am_R} (h : ∀ q, am_sub K (k q)) : am_sub K (am_ix j n k) := am_sub_ite (h _)
theorem am_sub_pI {v : Value} {k : Value → am_R} (h : ∀ v, am_sub K (k v)) : am_sub K (am_pushI v k) := by
  unfold am_pushI; split
  · exact h _
  · exact am_sub_none
theorem am_sub_pL {v : Value} {k : Value → am_R} (h : ∀ v, am_sub K (k v)) : am_sub K (am_pushL v k) := by
  unfold am_pushL; split
  · exact h _
  · exact am_sub_none
theorem am_sub_pR {v : Value} {k : Value → am_R} (h : ∀ v, am_sub K (k v)) : am_sub K (am_pushR v k) := by
  unfold am_pushR; split
  · exact h _
  · exact am_sub_none
theorem am_sub_ald {a : Value} {j : Int32} {ty : FieldType} {k : Value → am_R} (hk : ∀ v, am_sub K (k v)) : am_sub K (am_ald G ks h a j ty k) := by
  unfold am_ald; split
  · split
    · exact am_sub_cond (am_sub_ix (fun _ => hk _))
    · exact am_sub_none
  · split
    · exact am_sub_cond (am_sub_ix (fun _ => hk _))
    · exact am_sub_none
  · exact am_sub_none
theorem am_sub_ast {a : Value} {j : Int32} {ty : FieldType} {v : Value} {k : am_H → am_R} (hk : ∀ v, am_sub K (k v)) : am_sub K (am_ast ks h a j ty v k) := by
  unfold am_ast; split
  · split
    · exact am_sub_cond (am_sub_ix (fun _ => hk _))
    · exact am_sub_none
  · exact am_sub_none
theorem am_sub_aald {o : Nat} {j : Int32} {k : Value → am_R} (hk : ∀ v, am_sub K (k v)) : am_sub K (am_aald ks h o j k) := by
  unfold am_aald; split
  · exact am_sub_ix (fun _ => hk _)
  · exact am_sub_none
theorem am_sub_aast {o v : Nat} {j : Int32} {k : am_H → am_R} (hk : ∀ v, am_sub K (k v)) : am_sub K (am_aast G ks h o j v k) := by
  unfold am_aast; split
  · split
    · exact am_sub_cond (am_sub_ix (fun _ => hk _))
    · exact am_sub_none
  · exact am_sub_none
theorem am_sub_len {a : Value} {k : Value → am_R} (hk : ∀ v, am_sub K (k v)) : am_sub K (am_len G ks a k) := by
  unfold am_len; split
  · split
    · exact hk _
    · exact am_sub_none
  · split
    · exact hk _
    · exact am_sub_none
  · exact am_sub_none
theorem am_sub_text {j : Int32} {st : List Value} (hK : K cs) : am_sub K (am_text G M i cs ls st ks h nc ns j) := am_sub_cond (am_sub_ix (fun _ => am_sub_go hK))
theorem am_sub_math {g : Int32 → Int32 → Int32} (hK : K cs) : am_sub K (am_math M i cs ls st ks h nc ns g) := by
  unfold am_math; split
  · exact am_sub_cond (am_sub_go hK)
  · exact am_sub_none
theorem am_sub_new (hK : K cs) : am_sub K (am_new G M ex i cs ls st ks h nc ns) := am_sub_cond (am_sub_go hK)
theorem am_sub_newA {ty : FieldType} (hK : K cs) : am_sub K (am_newA M ex ty i cs ls st ks h nc ns) := by
  unfold am_newA; split
  · exact am_sub_ite (am_sub_cond (am_sub_go hK))
  · exact am_sub_none
theorem am_sub_calls {a : Nat} {as rest : List Value} (hK : K cs) : am_sub K (am_calls ex M M' a rc i cs ls as rest ks h nc ns) := by
  unfold am_calls
  refine am_sub_cond ?_
  split
  · exact am_sub_none
  · exact am_sub_cond (am_sub_go hK)
theorem am_sub_callV (hK : K cs) : am_sub K (am_callV ex G M rc i cs ls st ks h nc ns) := by
  unfold am_callV; split
  · exact am_sub_none
  · split
    · split
      · exact am_sub_cond (am_sub_calls hK)
      · exact am_sub_none
    · exact am_sub_none
theorem am_sub_callL (hK : K cs) : am_sub K (am_callL ex G M i cs ls st ks h nc ns) := am_sub_cond (am_sub_calls hK)
theorem am_sub_callS (hK : K cs) : am_sub K (am_callS ex G M rc i cs ls st ks h nc ns) := by
  unfold am_callS; split
  · exact am_sub_none
  · exact am_sub_cond (am_sub_calls hK)
set_option maxHeartbeats 4000000 in
theorem am_one_sub (h1 : K cs) (h2 : ∀ a, K (M.2.2.2.drop a)) (h3 : ∀ t, K (am_seek M.2.2.2 t)) : am_sub K (am_one am_φ ex G rc M (i :: cs, ls, st, ks, h, nc, ns)) := by
  obtain ⟨pc, len, ins, an, v0⟩ := i
  cases ins <;> (simp only [am_one]) <;> (repeat' (first | with_reducible exact am_sub_none | with_reducible exact am_sub_go h1 | with_reducible exact am_sub_jp h2 | with_reducible exact am_sub_sw h3 | with_reducible exact am_sub_br h1 h2 | with_reducible exact am_sub_callV h1 | with_reducible exact am_sub_callS h1 | with_reducible exact am_sub_callL h1 | with_reducible exact am_sub_math h1 | with_reducible exact am_sub_new h1 | with_reducible exact am_sub_newA h1 | with_reducible exact am_sub_text h1 | with_reducible refine am_sub_cond ?_ | with_reducible refine am_sub_ite ?_ | with_reducible refine am_sub_pI (fun v => ?_) | with_reducible refine am_sub_pL (fun v => ?_) | with_reducible refine am_sub_pR (fun v => ?_) | with_reducible refine am_sub_ald (fun v => ?_) | with_reducible refine am_sub_ast (fun v => ?_) | with_reducible refine am_sub_aald (fun v => ?_) | with_reducible refine am_sub_aast (fun v => ?_) | with_reducible refine am_sub_len (fun v => ?_) | dsimp only [am_φ] | split))
end AMQ
/-! ===== THE CONTRACT OUT OF A RUN ===== -/
def am_TN (TX : State → Prop) : Prop := ∀ (U : State) (a : Array Value), TX U → ∀ w ∈ am_tn, w.before a U = true
theorem am_met_of {l : Launch} {D : va_G} {cl : List vw_C} {B : Nat} {x : Nat → Nat} {ex : Bool} {TX : State → Prop} {G : am_G} {M : am_M} {as : List Value} {ks : List am_k} {h : am_H} {r : am_O} (hTN : am_TN TX) (hok : am_okM G M) (hhd : (M.2.2.2.head?.map (fun i => i.1)) = some 0) (hcat : am_cat as ≤ M.2.1.1)
    (hW : ∀ (p : Program) (e : Env) (s : State) (m : MethodId) (args : Array Value) (below : List Frame) (meth : Method) (c : Code), am_C p s m args meth c M → TX s → B ≤ s.heap.size → am_Wf p l e (am_rm M) s m args below meth c D cl B x ex M.2.1.1 (MQ below (am_Qc D cl B x ex r) args s M.2.2.1.2.2.1 M.2.2.1.2.2.2 (fun q => B ≤ q)) (M.2.2.2, lv_args 0 as, [], ks, h, 0, 0)) : am_Met l D cl B x ex TX M as ks h r := by
  obtain ⟨m1, m2, m3, m4, m5⟩ := hok
  refine Met.ofW (cc := M.1.2.2) (maxL := M.2.1.1) (ret := M.2.1.2.1) m4 rfl ?_
  intro p e s m args below meth c s₁ Bd hml hv
  obtain ⟨rfl, hrel, hB, hT⟩ := hv
  have hts := atoms_spec (ws := am_ws M) Bd.pre
  have C : am_C p s m (as.map (am_c B x)).toArray meth c M := ⟨Bd.exec, Bd.bytes, hml, Bd.returns, findClass_of_methodNamed Bd.named, fun w hw => hts w (List.mem_cons_of_mem _ hw), Bd.notSynchronized, (name_of_methodNamed Bd.named Bd.method).1, fun w hw => hTN s _ hT w hw⟩
  have hl := lv_entry (as.map (am_c B x)) (n := M.2.1.1) (by rw [am_lg_len]; exact Nat.le_trans (Nat.le_of_eq (by rw [am_cat, am_cat_map])) hcat)
  rw [lg_entry_eq]
  rw [am_lv_args] at hl
  cases hcd : M.2.2.2 with
  | nil => rw [hcd] at hhd; cases hhd
  | cons j rr =>
    rw [hcd] at hhd
    have hj : j.1 = 0 := Option.some.inj hhd
    have h1 := hW p e s m (as.map (am_c B x)).toArray below meth c C hT hB s.heap [] _ j rr hcd hrel va_S.rf hl
    rw [hj] at h1
    exact h1
set_option maxHeartbeats 4000000 in
theorem am_run_ok {l : Launch} {D : va_G} {cl : List vw_C} {B : Nat} {x : Nat → Nat} {ex : Bool} {TX : State → Prop} {tx : Nat → Int32} (hTm : am_TXm B TX) (hTN : am_TN TX) (hTx : am_TxOK l B x tx TX) :
    ∀ (n : Nat) (G : am_G) (M : am_M) (f : am_F) (r : am_O), am_okG cl G → am_okP cl G → G.2.2.2.1 = tx → (∀ i ∈ f.1, am_okI cl G M i) → (∀ i ∈ M.2.2.2, am_okI cl G M i) → am_run am_φ ex n G M f = some r →
      (∀ (hh : List (Nat × Nat × Nat × Nat)), am_okL G hh → ∀ (as : List Value) (ks : List am_k) (h : am_H) (r : am_O), G.2.2.2.2.2.2 as ks h = some r → am_MetL l D cl B x ex TX G.2.2.2.2.2.1 hh as ks h r) →
      ∀ (p : Program) (e : Env) (s : State) (m : MethodId) (args : Array Value) (below : List Frame) (meth : Method) (c : Code), am_C p s m args meth c M → am_scr G B x s → TX s → B ≤ s.heap.size →
        am_Wf p l e (am_rm M) s m args below meth c D cl B x ex M.2.1.1 (MQ below (am_Qc D cl B x ex r) args s M.2.2.1.2.2.1 M.2.2.1.2.2.2 (fun q => B ≤ q)) f := by
  intro n
  induction n with
  | zero => intro G M f r _ _ _ _ _ h; cases h
  | succ n ih =>
    intro G M f r hG hP htx hf hM hrun hLk p e s m args below meth c C hscr hT hB
    obtain ⟨fc, ls, st, ks, h, nc, ns⟩ := f
    cases fc with
    | nil => intro H locs L j r' hj; cases hj
    | cons i cs =>
    have hun : am_run am_φ ex (n + 1) G M (i :: cs, ls, st, ks, h, nc, ns) = (match am_end M (i :: cs, ls, st, ks, h, nc, ns) with
      | some r => some r
      | none => match am_one am_φ ex G (fun a as ks h => match G.1 a with
          | none => none
          | some M' => am_run am_φ ex n (am_noS G) M' (M'.2.2.2, lv_args 0 as, [], ks, h, 0, 0)) M (i :: cs, ls, st, ks, h, nc, ns) with
        | some (.inl f') => am_run am_φ ex n G M f'
        | _ => none) := rfl
    rw [hun] at hrun
    have hi : am_okI cl G M i := hf i List.mem_cons_self
    split at hrun
    · rename_i r0 hend
      cases hrun
      exact am_fin C hi hend
    · split at hrun
      · rename_i f' hone
        obtain ⟨hTA, hTB⟩ := hTx p e s m args below meth c M C hT hB
        refine am_step C hG rfl hB hTm hT hTA (by rw [htx]; exact hTB) hscr ?_ hLk hi hone ?_
        · intro a M' as ks h r hM' hcat hrc
          rw [hM'] at hrc
          dsimp only at hrc
          obtain ⟨q1, q2, q3⟩ := hP a M' hM'
          refine am_met_of (G := G) hTN q1 q3 hcat ?_
          intro p e s m args below meth c C hT hB
          exact ih (am_noS G) M' _ r hG hP htx q2 q2 hrc (fun _ _ _ _ _ _ h9 => by cases h9) p e s m args below meth c C (fun L xs h9 => by cases h9) hT hB
        · refine ih G M f' r hG hP htx ?_ hM hrun hLk p e s m args below meth c C hscr hT hB
          exact am_one_sub (K := fun l => ∀ i ∈ l, am_okI cl G M i) (fun j hj => hf j (List.mem_cons_of_mem _ hj)) (fun a j hj => hM j (List.mem_of_mem_drop hj)) (fun t j hj => hM j (am_seek_sub hj)) f' hone
      · cases hrun
/-- a method's contract, for every heap and arguments at which the small machine comes to an end -/
theorem am_met {l : Launch} {D : va_G} {cl : List vw_C} {B : Nat} {x : Nat → Nat} {ex : Bool} {TX : State → Prop} (hTm : am_TXm B TX) (hTN : am_TN TX) {G : am_G} (hTx : am_TxOK l B x G.2.2.2.1 TX) (hG : am_okG cl G) (hP : am_okP cl G) {a n : Nat} {M : am_M} {as : List Value} {ks : List am_k} {h : am_H} {r : am_O} (hM : G.1 a = some M) (hcat : am_cat as ≤ M.2.1.1)
    (hrun : am_run am_φ ex n (am_noS G) M (M.2.2.2, lv_args 0 as, [], ks, h, 0, 0) = some r) : am_Met l D cl B x ex TX M as ks h r := by
  obtain ⟨q1, q2, q3⟩ := hP a M hM
  refine am_met_of (G := G) hTN q1 q3 hcat ?_
  intro p e s m args below meth c C hT hB
  exact am_run_ok hTm hTN hTx n (am_noS G) M _ r hG hP rfl q2 q2 hrun (fun _ _ _ _ _ _ h9 => by cases h9) p e s m args below meth c C (fun L xs h9 => by cases h9) hT hB
