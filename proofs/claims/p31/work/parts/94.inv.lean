/-! ===== THE TABLE HOLDS AT THE BEGINNING ===== -/
def ab_gb (V : ab_V) (v : Value) : Bool := match V.1, v with
  | 0, .int x => decide (V.2.1 ≤ x.toInt) && decide (x.toInt ≤ V.2.2.1)
  | 1, .long _ => true
  | 2, .long x => !decide (x = 0)
  | 3, .long x => decide (x = 0)
  | _ + 4, .ref n => V.2.2.2.any (fun m => Nat.beq m n)
  | _, _ => false
theorem ab_gb_ok {V : ab_V} {v : Value} (h : ab_gb V v = true) : ab_g V v := by
  obtain ⟨a, l, u, c⟩ := V
  unfold ab_gb at h
  split at h
  · rename_i x e
    dsimp only at e
    subst e
    simp only [Bool.and_eq_true, decide_eq_true_eq] at h
    exact ⟨x, rfl, h.1, h.2⟩
  · rename_i x e
    dsimp only at e
    subst e
    exact ⟨x, rfl⟩
  · rename_i x e
    dsimp only at e
    subst e
    exact ⟨x, rfl, by simpa using h⟩
  · rename_i x e
    dsimp only at e
    subst e
    have : x = 0 := of_decide_eq_true h
    subst this
    rfl
  · rename_i m n e
    dsimp only at e
    subst e
    obtain ⟨q, hq, hb⟩ := List.any_eq_true.mp h
    exact ⟨n, rfl, (Nat.eq_of_beq_eq_true hb) ▸ hq⟩
  · cases h
def ab_cellB (h : am_H) (o : Nat) : Bool := match am_ks0[o]? with
  | some kd => (List.range (ab_sz kd)).all (fun k => ab_gb (ab_hi ab_tab o k) (h o k))
  | none => true
set_option maxRecDepth 1000000 in
theorem ab_i0 : (List.range 3).all (fun o => ab_cellB am_h0 o) = true := by decide +kernel
