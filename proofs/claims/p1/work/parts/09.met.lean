/-! ===== WHERE AN INSTRUCTION GOES ON: in the method's own code ===== -/
def am_sub (K : List am_I → Prop) (r : am_R) : Prop := ∀ f', r = some (.inl f') → K f'.1
section AMQ
variable {K : List am_I → Prop} {ex : Bool} {G : am_G} {rc : am_rec} {M M' : am_M} {i : am_I} {cs : List am_I} {ls : am_L} {st : List Value} {ks : List am_k} {h : am_H} {nc ns : Nat}
theorem am_sub_none : am_sub K none := fun _ h => by cases h
theorem am_sub_go {ls : am_L} {st : List Value} {ks : List am_k} {h : am_H} {nc ns : Nat} (hK : K cs) : am_sub K (am_go i cs ls st ks h nc ns) := by
  intro f' hf
  unfold am_go am_nx at hf
  split at hf
  · cases hf
  · rename_i j r
    cases hb : Nat.beq j.1 (i.1 + i.2.1) with
    | false => rw [hb] at hf; cases hf
    | true => rw [hb] at hf; cases hf; exact hK
theorem am_sub_cond {b : Bool} {r : am_R} (h : am_sub K r) : am_sub K (cond b r none) := by
  cases b
  · exact am_sub_none
  · exact h
theorem am_sub_ite {p : Prop} [Decidable p] {r : am_R} (h : am_sub K r) : am_sub K (if p then none else r) := by
  split
  · exact am_sub_none
  · exact h
theorem am_sub_jp {a : Nat} {t : Int} (hK : ∀ a, K (M.2.2.2.drop a)) : am_sub K (am_jp M a t ls st ks h nc ns) := by
  intro f' hf
  unfold am_jp at hf
  split at hf
  · cases hf
  · rename_i j r hd
    split at hf
    · cases hf
      have := hK a
      rw [hd] at this
      exact this
    · cases hf
theorem am_sub_sw {t : Int} (hK : ∀ t, K (am_seek M.2.2.2 t)) : am_sub K (am_sw M t ls st ks h nc ns) := by
  intro f' hf
  unfold am_sw at hf
  split at hf
  · cases hf
  · rename_i j r hd
    cases hf
    have := hK t
    rw [hd] at this
    exact this
theorem am_sub_br {b : Bool} {off : Int} {st : List Value} (h1 : K cs) (h2 : ∀ a, K (M.2.2.2.drop a)) : am_sub K (am_br M i cs b off ls st ks h nc ns) := by
  unfold am_br
  cases b
  · exact am_sub_go h1
  · exact am_sub_jp h2
theorem am_sub_ix {j : Int32} {n : Nat} {k : Nat → am_R} (h : ∀ q, am_sub K (k q)) : am_sub K (am_ix j n k) := am_sub_ite (h _)
theorem am_sub_pI {v : Value} {k : Value → am_R} (h : ∀ v, am_sub K (k v)) : am_sub K (am_pushI v k) := by
  unfold am_pushI; split
  · exact h _
  · exact am_sub_none
theorem am_sub_pL {v : Value} {k : Value → am_R} (h : ∀ v, am_sub K (k v)) : am_sub K (am_pushL v k) := by
  unfold am_pushL; split
  · exact h _
  · exact am_sub_none
theorem am_sub_pR {v : Value} {k : Value → am_R} (h : ∀ v, am_sub K (k v)) : am_sub K (am_pushR v k) := by
  unfold am_pushR; split
  · exact h _
  · exact am_sub_none
theorem am_sub_ald {a : Value} {j : Int32} {ty : FieldType} {k : Value → am_R} (hk : ∀ v, am_sub K (k v)) : am_sub K (am_ald G ks h a j ty k) := by
  unfold am_ald; split
  · split
    · exact am_sub_cond (am_sub_ix (fun _ => hk _))
    · exact am_sub_none
  · split
    · exact am_sub_cond (am_sub_ix (fun _ => hk _))
    · exact am_sub_none
  · exact am_sub_none
theorem am_sub_ast {a : Value} {j : Int32} {ty : FieldType} {v : Value} {k : am_H → am_R} (hk : ∀ v, am_sub K (k v)) : am_sub K (am_ast ks h a j ty v k) := by
  unfold am_ast; split
  · split
    · exact am_sub_cond (am_sub_ix (fun _ => hk _))
    · exact am_sub_none
  · exact am_sub_none
theorem am_sub_aald {o : Nat} {j : Int32} {k : Value → am_R} (hk : ∀ v, am_sub K (k v)) : am_sub K (am_aald ks h o j k) := by
  unfold am_aald; split
  · exact am_sub_ix (fun _ => hk _)
  · exact am_sub_none
theorem am_sub_aast {o v : Nat} {j : Int32} {k : am_H → am_R} (hk : ∀ v, am_sub K (k v)) : am_sub K (am_aast G ks h o j v k) := by
  unfold am_aast; split
  · split
    · exact am_sub_cond (am_sub_ix (fun _ => hk _))
    · exact am_sub_none
  · exact am_sub_none
theorem am_sub_len {a : Value} {k : Value → am_R} (hk : ∀ v, am_sub K (k v)) : am_sub K (am_len G ks a k) := by
  unfold am_len; split
  · split
    · exact hk _
    · exact am_sub_none
  · split
    · exact hk _
    · exact am_sub_none
  · exact am_sub_none
theorem am_sub_text {j : Int32} {st : List Value} (hK : K cs) : am_sub K (am_text G M i cs ls st ks h nc ns j) := am_sub_cond (am_sub_ix (fun _ => am_sub_go hK))
theorem am_sub_math {g : Int32 → Int32 → Int32} (hK : K cs) : am_sub K (am_math M i cs ls st ks h nc ns g) := by
  unfold am_math; split
  · exact am_sub_cond (am_sub_go hK)
  · exact am_sub_none
theorem am_sub_new (hK : K cs) : am_sub K (am_new G M ex i cs ls st ks h nc ns) := am_sub_cond (am_sub_go hK)
theorem am_sub_newA {ty : FieldType} (hK : K cs) : am_sub K (am_newA M ex ty i cs ls st ks h nc ns) := by
  unfold am_newA; split
  · exact am_sub_ite (am_sub_cond (am_sub_go hK))
  · exact am_sub_none
theorem am_sub_calls {a : Nat} {as rest : List Value} (hK : K cs) : am_sub K (am_calls ex M M' a rc i cs ls as rest ks h nc ns) := by
  unfold am_calls
  refine am_sub_cond ?_
  split
  · exact am_sub_none
  · exact am_sub_cond (am_sub_go hK)
theorem am_sub_callV (hK : K cs) : am_sub K (am_callV ex G M rc i cs ls st ks h nc ns) := by
  unfold am_callV; split
  · exact am_sub_none
  · split
    · split
      · exact am_sub_cond (am_sub_calls hK)
      · exact am_sub_none
    · exact am_sub_none
theorem am_sub_callS (hK : K cs) : am_sub K (am_callS ex G M rc i cs ls st ks h nc ns) := by
  unfold am_callS; split
  · exact am_sub_none
  · exact am_sub_cond (am_sub_calls hK)
set_option maxHeartbeats 4000000 in
theorem am_one_sub (h1 : K cs) (h2 : ∀ a, K (M.2.2.2.drop a)) (h3 : ∀ t, K (am_seek M.2.2.2 t)) : am_sub K (am_one am_φ ex G rc M (i :: cs, ls, st, ks, h, nc, ns)) := by
  obtain ⟨pc, len, ins, an, v0⟩ := i
  cases ins <;> (simp only [am_one]) <;> (repeat' (first | with_reducible exact am_sub_none | with_reducible exact am_sub_go h1 | with_reducible exact am_sub_jp h2 | with_reducible exact am_sub_sw h3 | with_reducible exact am_sub_br h1 h2 | with_reducible exact am_sub_callV h1 | with_reducible exact am_sub_callS h1 | with_reducible exact am_sub_math h1 | with_reducible exact am_sub_new h1 | with_reducible exact am_sub_newA h1 | with_reducible exact am_sub_text h1 | with_reducible refine am_sub_cond ?_ | with_reducible refine am_sub_ite ?_ | with_reducible refine am_sub_pI (fun v => ?_) | with_reducible refine am_sub_pL (fun v => ?_) | with_reducible refine am_sub_pR (fun v => ?_) | with_reducible refine am_sub_ald (fun v => ?_) | with_reducible refine am_sub_ast (fun v => ?_) | with_reducible refine am_sub_aald (fun v => ?_) | with_reducible refine am_sub_aast (fun v => ?_) | with_reducible refine am_sub_len (fun v => ?_) | dsimp only [am_φ] | split))
end AMQ
