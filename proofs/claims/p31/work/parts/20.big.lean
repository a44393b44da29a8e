/-! ===== BIG STEPS: runs of the small machine, put together ===== -/
/-- a call's answer by a run of so much -/
noncomputable def am_rc (ex : Bool) (n : Nat) (G : am_G) : am_rec := fun a as ks h => match G.1 a with
  | none => none
  | some M' => am_run am_φ ex n (am_noS G) M' (M'.2.2.2, lv_args 0 as, [], ks, h, 0, 0)
theorem am_run_s (ex : Bool) (n : Nat) (G : am_G) (M : am_M) (f : am_F) : am_run am_φ ex (n + 1) G M f = (match am_end M f with
      | some r => some r
      | none => match am_one am_φ ex G (am_rc ex n G) M f with
        | some (.inl f') => am_run am_φ ex n G M f'
        | _ => none) := rfl
theorem am_calls_mono {ex : Bool} {M M' : am_M} {a : Nat} {rc rc' : am_rec} {i : am_I} {cs : List am_I} {ls : am_L} {as rest : List Value} {ks : List am_k} {h : am_H} {nc ns : Nat} {x : am_F ⊕ am_O}
    (hr : ∀ a as ks h r, rc a as ks h = some r → rc' a as ks h = some r) (hh : am_calls ex M M' a rc i cs ls as rest ks h nc ns = some x) : am_calls ex M M' a rc' i cs ls as rest ks h nc ns = some x := by
  unfold am_calls at hh ⊢
  cases hc : am_okC M M' as rest nc ns with
  | false => rw [hc] at hh; cases hh
  | true =>
    rw [hc, cond_true] at hh
    rw [cond_true]
    cases hq : rc a as ks h with
    | none => rw [hq] at hh; cases hh
    | some r =>
      rw [hq] at hh
      rw [hr a as ks h r hq]
      exact hh
theorem am_callV_mono {ex : Bool} {G : am_G} {M : am_M} {rc rc' : am_rec} {i : am_I} {cs : List am_I} {ls : am_L} {st : List Value} {ks : List am_k} {h : am_H} {nc ns : Nat} {x : am_F ⊕ am_O}
    (hr : ∀ a as ks h r, rc a as ks h = some r → rc' a as ks h = some r) (hh : am_callV ex G M rc i cs ls st ks h nc ns = some x) : am_callV ex G M rc' i cs ls st ks h nc ns = some x := by
  unfold am_callV at hh ⊢
  split at hh
  · cases hh
  · split at hh
    · split at hh
      · rename_i ci hk
        generalize hc : (Nat.beq ci _ && _) = cc at hh ⊢
        cases cc with
        | false => cases hh
        | true => exact am_calls_mono hr hh
      · cases hh
    · cases hh
theorem am_callS_mono {ex : Bool} {G : am_G} {M : am_M} {rc rc' : am_rec} {i : am_I} {cs : List am_I} {ls : am_L} {st : List Value} {ks : List am_k} {h : am_H} {nc ns : Nat} {x : am_F ⊕ am_O}
    (hr : ∀ a as ks h r, rc a as ks h = some r → rc' a as ks h = some r) (hh : am_callS ex G M rc i cs ls st ks h nc ns = some x) : am_callS ex G M rc' i cs ls st ks h nc ns = some x := by
  unfold am_callS at hh ⊢
  split at hh
  · cases hh
  · rename_i M' hM'
    generalize hc : Nat.beq (List.take _ st).length _ = cc at hh ⊢
    cases cc with
    | false => cases hh
    | true => exact am_calls_mono hr hh
set_option maxHeartbeats 4000000 in
theorem am_one_mono {ex : Bool} {G : am_G} {M : am_M} {rc rc' : am_rec} {f : am_F} {x : am_F ⊕ am_O} (hr : ∀ a as ks h r, rc a as ks h = some r → rc' a as ks h = some r) (hh : am_one am_φ ex G rc M f = some x) : am_one am_φ ex G rc' M f = some x := by
  obtain ⟨fc, ls, st, ks, h, nc, ns⟩ := f
  cases fc with
  | nil => exact hh
  | cons i cs =>
    obtain ⟨pc, len, ins, ⟨a, b, c⟩, v0⟩ := i
    cases ins
    case invokespecial idx =>
      match c, hh with
      | 0, hh => exact hh
      | c + 1, hh => exact am_callV_mono hr hh
    case invokevirtual idx =>
      match c, hh with
      | 0, hh => exact hh
      | c + 1, hh => exact am_callV_mono hr hh
    case invokestatic idx =>
      match c, hh with
      | 0, hh => exact hh
      | 1, hh => exact hh
      | 2, hh => exact hh
      | c + 3, hh => exact am_callS_mono hr hh
    all_goals exact hh
theorem am_run_up {ex : Bool} : ∀ (n : Nat) (G : am_G) (M : am_M) (f : am_F) (r : am_O), am_run am_φ ex n G M f = some r → am_run am_φ ex (n + 1) G M f = some r := by
  intro n
  induction n with
  | zero => intro G M f r h; cases h
  | succ n ih =>
    intro G M f r h
    rw [am_run_s] at h ⊢
    split at h
    · exact h
    · split at h
      · rename_i f' hone
        have : am_one am_φ ex G (am_rc ex (n + 1) G) M f = some (.inl f') := am_one_mono (fun a as ks h r hq => by
          unfold am_rc at hq ⊢
          split at hq
          · cases hq
          · exact ih _ _ _ _ hq) hone
        rw [this]
        exact ih _ _ _ _ h
      · cases h
theorem am_run_le {ex : Bool} {n m : Nat} (hnm : n ≤ m) {G : am_G} {M : am_M} {f : am_F} {r : am_O} (h : am_run am_φ ex n G M f = some r) : am_run am_φ ex m G M f = some r := by
  induction hnm with
  | refl => exact h
  | step _ ih => exact am_run_up _ _ _ _ _ ih
/-- a run comes to an end with Q -/
def am_Ev (ex : Bool) (G : am_G) (M : am_M) (f : am_F) (Q : Option Value → List am_k → am_H → Prop) : Prop := ∃ (n : Nat) (r : am_O), am_run am_φ ex n G M f = some r ∧ Q r.1 r.2.1 r.2.2
/-- at the k-th instruction -/
def am_Ek (ex : Bool) (G : am_G) (M : am_M) (k : Nat) (ls : am_L) (st : List Value) (ks : List am_k) (h : am_H) (nc ns : Nat) (Q : Option Value → List am_k → am_H → Prop) : Prop := am_Ev ex G M (M.2.2.2.drop k, ls, st, ks, h, nc, ns) Q
def am_rc0 : am_rec := fun _ _ _ _ => none
theorem am_Ev_one {ex : Bool} {G : am_G} {M : am_M} {f f' : am_F} {Q : Option Value → List am_k → am_H → Prop} (h1 : am_end M f = none) (h2 : am_one am_φ ex G am_rc0 M f = some (.inl f')) (h3 : am_Ev ex G M f' Q) : am_Ev ex G M f Q := by
  obtain ⟨n, r, hr, hQ⟩ := h3
  refine ⟨n + 1, r, ?_, hQ⟩
  rw [am_run_s, h1, am_one_mono (rc' := am_rc ex n G) (fun _ _ _ _ _ hq => by cases hq) h2]
  exact hr
theorem am_Ev_end {ex : Bool} {G : am_G} {M : am_M} {f : am_F} {r : am_O} {Q : Option Value → List am_k → am_H → Prop} (h1 : am_end M f = some r) (hQ : Q r.1 r.2.1 r.2.2) : am_Ev ex G M f Q :=
  ⟨1, r, by rw [am_run_s, h1], hQ⟩
theorem am_Ev_mono {ex : Bool} {G : am_G} {M : am_M} {f : am_F} {Q Q' : Option Value → List am_k → am_H → Prop} (h : am_Ev ex G M f Q) (hq : ∀ v ks h, Q v ks h → Q' v ks h) : am_Ev ex G M f Q' := by
  obtain ⟨n, r, hr, hQ⟩ := h
  exact ⟨n, r, hr, hq _ _ _ hQ⟩
/-- the k-th instruction, and that the next one stands right behind it -/
def am_nxt (M : am_M) (k : Nat) (i : am_I) : Prop := M.2.2.2.drop k = i :: M.2.2.2.drop (k + 1) ∧ (M.2.2.2.drop (k + 1)).head?.map (fun j => j.1) = some (i.1 + i.2.1)
def am_cur (M : am_M) (k : Nat) (i : am_I) : Prop := M.2.2.2.drop k = i :: M.2.2.2.drop (k + 1)
theorem am_go_ok {i : am_I} {cs : List am_I} {ls : am_L} {st : List Value} {ks : List am_k} {h : am_H} {nc ns : Nat} (hn : cs.head?.map (fun j => j.1) = some (i.1 + i.2.1)) : am_go i cs ls st ks h nc ns = some (.inl (cs, ls, st, ks, h, nc, ns)) := by
  unfold am_go am_nx
  cases cs with
  | nil => cases hn
  | cons j r =>
    have : j.1 = i.1 + i.2.1 := Option.some.inj hn
    show cond (Nat.beq j.1 (i.1 + i.2.1)) _ _ = _
    rw [this, Nat.beq_refl]
    rfl
theorem am_e_of {ex : Bool} {G : am_G} {M : am_M} {k : Nat} {i : am_I} {ls ls' : am_L} {st st' : List Value} {ks ks' : List am_k} {h h' : am_H} {nc ns nc' ns' : Nat} {Q : Option Value → List am_k → am_H → Prop} (hn : am_nxt M k i)
    (h1 : ∀ cs, am_end M (i :: cs, ls, st, ks, h, nc, ns) = none) (h2 : ∀ cs, am_one am_φ ex G am_rc0 M (i :: cs, ls, st, ks, h, nc, ns) = am_go i cs ls' st' ks' h' nc' ns') (h3 : am_Ek ex G M (k + 1) ls' st' ks' h' nc' ns' Q) : am_Ek ex G M k ls st ks h nc ns Q := by
  unfold am_Ek
  rw [hn.1]
  exact am_Ev_one (h1 _) (by rw [h2, am_go_ok hn.2]) h3
