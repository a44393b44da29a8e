/-! ===== FIELDS, ARRAYS, MAKING ===== -/
/-- the class table and the machine's own tables agree, and the words of each class are there -/
def am_okG (cl : List vw_C) (G : am_G) : Prop := ∀ (ci : Nat) (r : vw_C), cl[ci]? = some r →
  (G.2.1 ci).length = r.2.2 ∧ G.2.2.1 ci = r.1 ∧ (∀ k, k < r.2.2 → parseFieldDescriptor (r.2.1 k).2.2.1 = some ((G.2.1 ci).getD k .int)) ∧ (∀ a, a < r.2.2 → ∀ b, b < r.2.2 → a ≠ b → (r.2.1 a).2.1 ≠ (r.2.1 b).2.1) ∧ (∀ w ∈ u_ws r.1 r.2.1 r.2.2, w ∈ am_ts) ∧ Cond.instantiable r.1 r.2.2 ∈ am_ts ∧ Cond.initialized r.1 ∈ am_ts
/-- the script, as the frame's start has it -/
def am_scr (G : am_G) (B : Nat) (x : Nat → Nat) (s : State) : Prop := ∀ (L : Nat) (xs : Nat → Int32), G.2.2.2.2.1 = some (L, xs) → va_X (x 0) L xs s s.heap ∧ x 0 < s.heap.size ∧ ¬ B ≤ x 0
/-- a field's link: plain, or of a nest mate -/
def am_fl (own : String) (idx : Nat) (q : String × String × String × Bool) : Prop := Cond.fieldLink own idx q.1 q.2.1 q.2.2.1 ∈ am_ts ∨ ∃ host, Cond.fieldLinkNest own idx q.1 q.2.1 q.2.2.1 host ∈ am_tn
theorem am_N_of {cl : List vw_C} {ci : Nat} {r : vw_C} (hc : cl[ci]? = some r) : am_N cl ci = r.2.2 := by simp [am_N, hc]
theorem am_ix_use {j : Int32} {n : Nat} {k : Nat → am_R} {o : am_F ⊕ am_O} (h : am_ix j n k = some o) : vp_in j n ∧ k j.toNatClampNeg = some o := by
  unfold am_ix at h
  split at h
  · cases h
  · rename_i hc
    exact ⟨hc, h⟩
theorem am_ald_use {G : am_G} {ks : List am_k} {h : am_H} {a : Value} {j : Int32} {ty : FieldType} {k : Value → am_R} {o : am_F ⊕ am_O} (hh : am_ald G ks h a j ty k = some o) :
    (∃ (q n : Nat), a = .ref q ∧ ks[q]? = some (.inr (ty, n)) ∧ vp_in j n ∧ k (h q j.toNatClampNeg) = some o) ∨ (∃ (L : Nat) (xs : Nat → Int32), a = .retAddr 0 ∧ G.2.2.2.2.1 = some (L, xs) ∧ ty = .int ∧ vp_in j L ∧ k (.int (xs j.toNatClampNeg)) = some o) := by
  unfold am_ald at hh
  split at hh
  · rename_i q
    split at hh
    · rename_i t n hks
      cases hd : decide (t = ty) with
      | false => rw [hd] at hh; cases hh
      | true =>
        rw [hd] at hh
        rw [cond_true] at hh
        have := of_decide_eq_true hd
        subst this
        obtain ⟨h1, h2⟩ := am_ix_use hh
        exact Or.inl ⟨q, n, rfl, hks, h1, h2⟩
    · cases hh
  · split at hh
    · rename_i L xs hs
      cases hd : decide (ty = .int) with
      | false => rw [hd] at hh; cases hh
      | true =>
        rw [hd, cond_true] at hh
        obtain ⟨h1, h2⟩ := am_ix_use hh
        exact Or.inr ⟨L, xs, rfl, hs, of_decide_eq_true hd, h1, h2⟩
    · cases hh
  · cases hh
theorem am_ast_use {ks : List am_k} {h : am_H} {a : Value} {j : Int32} {ty : FieldType} {v : Value} {k : am_H → am_R} {o : am_F ⊕ am_O} (hh : am_ast ks h a j ty v k = some o) :
    ∃ (q n : Nat), a = .ref q ∧ ks[q]? = some (.inr (ty, n)) ∧ vp_in j n ∧ k (am_up h q j.toNatClampNeg v) = some o := by
  unfold am_ast at hh
  split at hh
  · rename_i q
    split at hh
    · rename_i t n hks
      cases hd : decide (t = ty) with
      | false => rw [hd] at hh; cases hh
      | true =>
        rw [hd] at hh
        rw [cond_true] at hh
        have := of_decide_eq_true hd
        subst this
        obtain ⟨h1, h2⟩ := am_ix_use hh
        exact ⟨q, n, rfl, hks, h1, h2⟩
    · cases hh
  · cases hh
section AMH
variable {p : Program} {l : Launch} {e : Env} {R : Room} {s : State} {m : MethodId} {args : Array Value} {below : List Frame} {meth : Method} {c : Code} {D : va_G} {cl : List vw_C} {B : Nat} {x : Nat → Nat} {ex : Bool} {nL : Nat} {Q : State → Prop} {M : am_M} {f' : am_F}
variable {pc len : Nat} {ins : Instr} {an : Nat × Nat × Nat} {v0 : Int} {cs : List am_I} {ls : am_L} {st : List Value} {ks : List am_k} {h : am_H} {nc ns : Nat} {G : am_G} {rc : am_rec}
theorem am_s_getfield {idx : Nat} {r : vw_C} (C : am_C p s m args meth c M) (hG : am_okG cl G) (hd : decode M.1.2.2 pc = .ok (.getfield idx, 3)) (hc : cl[an.1]? = some r) (hk : an.2.1 < r.2.2) (hl : am_fl M.1.2.1.cls idx (r.2.1 an.2.1))
    (hone : am_one am_φ ex G rc M ((pc, 3, .getfield idx, an, v0) :: cs, ls, st, ks, h, nc, ns) = some (.inl f')) (hW : am_Wf p l e R s m args below meth c D cl B x ex M.2.1.1 Q f') : am_Wf p l e R s m args below meth c D cl B x ex M.2.1.1 Q ((pc, 3, .getfield idx, an, v0) :: cs, ls, st, ks, h, nc, ns) := by
  obtain ⟨hx, hb, hml, hr, hown, hts, hlk, hnm, htn⟩ := C
  obtain ⟨g1, g2, g3, g4, g5, g6, g7⟩ := hG _ _ hc
  simp only [am_one] at hone
  split at hone
  · rename_i o st0
    split at hone
    · rename_i ci hks
      cases hci : Nat.beq ci an.1 with
      | false => rw [hci] at hone; cases hone
      | true =>
      rw [hci] at hone
      have hci := Nat.eq_of_beq_eq_true hci
      subst hci
      intro H locs L j r' hj hR hS hlv
      cases hj
      obtain ⟨hK, dA, hP, hA, hz⟩ := hR
      have he := am_W_some (cl := cl) (B := B) (x := x) (dA := dA) (h := h) hks
      have hv : ((List.range (am_N cl an.1)).map (fun j => am_c B x (h o j)))[an.2.1]? = some (am_c B x (h o an.2.1)) := by
        rw [am_N_of hc]; simp [hk]
      rcases hl with hl | ⟨host, hl⟩
      · exact va_get (C := r.1) (T := r.2.1) (N := r.2.2) hx hb hts g5 hown hK hP o he hc an.2.1 hk (hts _ hl) (fun _ h9 => h9) hv hd (am_go_use hone hW H locs L ⟨hK, dA, hP, hA, hz⟩ hS hlv)
      · exact va_getN (C := r.1) (T := r.2.1) (N := r.2.2) hx hb hts g5 hown hK hP o he hc an.2.1 hk (htn _ hl) (fun _ h9 => h9) hv hd (am_go_use hone hW H locs L ⟨hK, dA, hP, hA, hz⟩ hS hlv)
    · cases hone
  · cases hone
theorem am_s_putfield {idx : Nat} {r : vw_C} (C : am_C p s m args meth c M) (hG : am_okG cl G) (hd : decode M.1.2.2 pc = .ok (.putfield idx, 3)) (hc : cl[an.1]? = some r) (hk : an.2.1 < r.2.2)
    (hl : ((r.2.1 an.2.1).2.2.2 = false ∧ am_fl M.1.2.1.cls idx (r.2.1 an.2.1)) ∨ ((r.2.1 an.2.1).2.2.2 = true ∧ Cond.fieldLink M.1.2.1.cls idx (r.2.1 an.2.1).1 (r.2.1 an.2.1).2.1 (r.2.1 an.2.1).2.2.1 ∈ am_ts ∧ M.1.2.1.name = "<init>" ∧ (r.2.1 an.2.1).1 = M.1.2.1.cls))
    (hone : am_one am_φ ex G rc M ((pc, 3, .putfield idx, an, v0) :: cs, ls, st, ks, h, nc, ns) = some (.inl f')) (hW : am_Wf p l e R s m args below meth c D cl B x ex M.2.1.1 Q f') : am_Wf p l e R s m args below meth c D cl B x ex M.2.1.1 Q ((pc, 3, .putfield idx, an, v0) :: cs, ls, st, ks, h, nc, ns) := by
  obtain ⟨hx, hb, hml, hr, hown, hts, hlk, hnm, htn⟩ := C
  obtain ⟨g1, g2, g3, g4, g5, g6, g7⟩ := hG _ _ hc
  simp only [am_one] at hone
  split at hone
  · rename_i v o st0
    split at hone
    · rename_i ci hks
      cases hci : (Nat.beq ci an.1 && am_fit ((G.2.1 an.1).getD an.2.1 .int) v) with
      | false => rw [hci] at hone; cases hone
      | true =>
      rw [hci] at hone
      simp only [Bool.and_eq_true] at hci
      obtain ⟨hci, hft⟩ := hci
      have hci := Nat.eq_of_beq_eq_true hci
      subst hci
      obtain ⟨f1, f2⟩ := am_fit_ok (B := B) (x := x) hft
      intro H locs L j r' hj hR hS hlv
      cases hj
      obtain ⟨hK, dA, hP, hA, hz⟩ := hR
      have he := am_W_some (cl := cl) (B := B) (x := x) (dA := dA) (h := h) hks
      have hkk : an.2.1 < am_N cl an.1 := by rw [am_N_of hc]; exact hk
      have hlen : an.2.1 < ((List.range (am_N cl an.1)).map (fun j => am_c B x (h o j))).length := by simpa using hkk
      have K : ∀ (H1 : Heap) (locs1 : List Loc), va_P D cl ((am_W cl B x dA ks h).set o (B + o, .inr (an.1, ((List.range (am_N cl an.1)).map (fun j => am_c B x (h o j))).set an.2.1 (am_c B x v)))) H1 → va_D (fun q => B ≤ q) ((am_W cl B x dA ks h).set o (B + o, .inr (an.1, ((List.range (am_N cl an.1)).map (fun j => am_c B x (h o j))).set an.2.1 (am_c B x v)))) → va_S (fun q => B ≤ q) s.heap H1 locs1 → W p l e R s m args below meth c H1 locs1 nc ns Q (F0 m (pc + 3) L (st0.map (am_c B x))) := by
        intro H1 locs1 q1 q2 q3
        rw [am_W_put hks hkk] at q1
        exact am_go_use hone hW H1 locs1 L ⟨hK, dA, q1, hA, hz⟩ q3 hlv
      have g3' := g3 an.2.1 hk
      rcases hl with ⟨hfin, hl | ⟨host, hl⟩⟩ | ⟨hfin, hl, hni, hdec⟩
      · exact va_put (C := r.1) (T := r.2.1) (N := r.2.2) hx hb hts g5 (fun k => (G.2.1 an.1).getD k .int) g3 g4 hown hK hP am_W_D hS o he hc an.2.1 hk (hts _ hl) (fun _ h9 => h9) hfin g3' f1 f2 hlen hd K
      · exact va_putN (C := r.1) (T := r.2.1) (N := r.2.2) hx hb hts g5 (fun k => (G.2.1 an.1).getD k .int) g3 g4 hown hK hP am_W_D hS o he hc an.2.1 hk (htn _ hl) (fun _ h9 => h9) hfin g3' f1 f2 hlen hd K
      · exact va_putF (C := r.1) (T := r.2.1) (N := r.2.2) hx hb hts g5 (fun k => (G.2.1 an.1).getD k .int) g3 g4 hown hK hP am_W_D hS o he hc an.2.1 hk (hts _ hl) (fun _ h9 => h9) hfin (hnm.trans hni) hdec g3' f1 f2 hlen hd K
    · cases hone
  · cases hone
end AMH
