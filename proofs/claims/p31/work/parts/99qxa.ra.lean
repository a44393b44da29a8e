/-! ===== REFERENCES STAY AMONG THESE CELLS: what a run can't reach it leaves (wip/r) ===== -/
def ra_V (A : Nat → Bool) (v : Value) : Prop := ∀ n, v = .ref n → A n = true
theorem ra_Vi {A : Nat → Bool} {x : Int32} : ra_V A (.int x) := fun _ e => by cases e
theorem ra_Vl {A : Nat → Bool} {x : Int64} : ra_V A (.long x) := fun _ e => by cases e
theorem ra_Va {A : Nat → Bool} {x : Nat} : ra_V A (.retAddr x) := fun _ e => by cases e
def ra_S (A : Nat → Bool) (st : List Value) : Prop := ∀ v ∈ st, ra_V A v
theorem ra_S0 {A : Nat → Bool} : ra_S A [] := fun _ h => absurd h List.not_mem_nil
theorem ra_Sc {A : Nat → Bool} {v : Value} {st : List Value} (hv_z : ra_V A v) (hs_z : ra_S A st) : ra_S A (v :: st) := by
  intro w hw_z
  rcases List.mem_cons.mp hw_z with rfl | hw_z
  · exact hv_z
  · exact hs_z w hw_z
theorem ra_Sh {A : Nat → Bool} {v : Value} {st : List Value} (h : ra_S A (v :: st)) : ra_V A v := h v List.mem_cons_self
theorem ra_St {A : Nat → Bool} {v : Value} {st : List Value} (h : ra_S A (v :: st)) : ra_S A st := fun w hw_z => h w (List.mem_cons_of_mem _ hw_z)
theorem ra_Sa {A : Nat → Bool} {s t : List Value} (a : ra_S A s) (b : ra_S A t) : ra_S A (s ++ t) := by
  intro w hw_z
  rcases List.mem_append.mp hw_z with q | q
  · exact a w q
  · exact b w q
def ra_L (A : Nat → Bool) (ls : am_L) : Prop := ∀ q ∈ ls, ra_V A q.2
theorem ra_Lg {A : Nat → Bool} {k : Nat} {v : Value} : ∀ {ls : am_L}, ra_L A ls → am_get ls k = some v → ra_V A v
  | [], _, e => by cases e
  | q :: l, h, e => by
    unfold am_get at e
    cases hb_z : Nat.beq q.1 k with
    | true =>
      rw [hb_z] at e
      cases e
      exact h q List.mem_cons_self
    | false =>
      rw [hb_z] at e
      exact ra_Lg (fun w hw_z => h w (List.mem_cons_of_mem _ hw_z)) e
theorem ra_Ls {A : Nat → Bool} {ls : am_L} {k : Nat} {v : Value} (h : ra_L A ls) (hv_z : ra_V A v) : ra_L A (am_set ls k v) := by
  intro q hq_z
  rcases List.mem_cons.mp hq_z with rfl | hq_z
  · exact hv_z
  · exact h q (List.mem_filter.mp hq_z).1
theorem ra_Ls2 {A : Nat → Bool} {ls : am_L} {k : Nat} {v : Value} (h : ra_L A ls) (hv_z : ra_V A v) : ra_L A (am_set2 ls k v) := by
  intro q hq_z
  rcases List.mem_cons.mp hq_z with rfl | hq_z
  · exact hv_z
  · exact h q (List.mem_filter.mp hq_z).1
theorem ra_La {A : Nat → Bool} : ∀ {as : List Value} {n : Nat}, ra_S A as → ra_L A (lv_args n as)
  | [], _, _ => fun _ h => absurd h List.not_mem_nil
  | v :: vs, n, h => by
    intro q hq_z
    unfold lv_args at hq_z
    rcases List.mem_cons.mp hq_z with rfl | hq_z
    · exact ra_Sh h
    · exact ra_La (ra_St h) q hq_z
/-- the cells, which fields are loaded, which methods are called -/
abbrev ra_W : Type := (Nat → Bool) × (Nat → Nat → Bool) × (Nat → Bool)
def ra_I (w : ra_W) (i : am_I) : Bool := match i.2.2.1 with
  | .getfield _ => w.2.1 i.2.2.2.1.1 i.2.2.2.1.2.1
  | .aastore => false
  | .invokespecial _ => (match i.2.2.2.1.2.2 with
    | 0 => true
    | _ => w.2.2 i.2.2.2.1.1)
  | .invokevirtual _ => (match i.2.2.2.1.2.2 with
    | 0 => true
    | _ => w.2.2 i.2.2.2.1.1)
  | .invokestatic _ => (match i.2.2.2.1.2.2 with
    | 0 => false
    | 1 => true
    | 2 => true
    | _ => w.2.2 i.2.2.2.1.1)
  | _ => true
def ra_K (w : ra_W) (cs : List am_I) : Prop := ∀ i ∈ cs, ra_I w i = true
/-- closed under what is loaded; the other cells as they were -/
def ra_P (w : ra_W) (h0_z h : am_H) : Prop :=
  (∀ o ci_z f n, w.1 o = true → am_ks0[o]? = some (.inl ci_z) → w.2.1 ci_z f = true → h o f = .ref n → w.1 n = true) ∧
  (∀ o ty N k n, w.1 o = true → am_ks0[o]? = some (.inr (ty, N)) → k < N → h o k = .ref n → w.1 n = true) ∧
  ∀ o k, w.1 o = false → h o k = h0_z o k
theorem ra_up {w : ra_W} {h0_z h : am_H} {o k : Nat} {v : Value} (hP : ra_P w h0_z h) (ho : w.1 o = true) (hv_z : ra_V w.1 v) : ra_P w h0_z (am_up h o k v) := by
  obtain ⟨p1_z, p2_z, p3_z⟩ := hP
  have key : ∀ o' k' n, am_up h o k v o' k' = .ref n → (h o' k' = .ref n) ∨ w.1 n = true := by
    intro o' k' n e
    by_cases e1_z : o' = o
    · subst e1_z
      by_cases e2_z : k' = k
      · subst e2_z
        rw [am_up_self] at e
        exact Or.inr (hv_z n e)
      · rw [am_up_same _ _ _ _ _ e2_z] at e
        exact Or.inl e
    · rw [am_up_other _ _ _ _ _ e1_z] at e
      exact Or.inl e
  refine ⟨fun o' ci_z f n a b c d => (key o' f n d).elim (p1_z o' ci_z f n a b c) id, fun o' ty N k' n a b c d => (key o' k' n d).elim (p2_z o' ty N k' n a b c) id, fun o' k' a => ?_⟩
  have e1_z : ¬ o' = o := by
    intro e
    subst e
    rw [ho] at a
    cases a
  rw [am_up_other _ _ _ _ _ e1_z]
  exact p3_z o' k' a
def ra_N (w : ra_W) (h0_z : am_H) (r : am_R) : Prop := ∀ x, r = some x → ∃ cs ls st h nc ns, x = .inl (cs, ls, st, am_ks0, h, nc, ns) ∧ ra_K w cs ∧ ra_L w.1 ls ∧ ra_S w.1 st ∧ ra_P w h0_z h
section RAN
variable {w : ra_W} {h0_z : am_H} {rc : am_rec} {M M' : am_M} {i : am_I} {cs : List am_I} {ls : am_L} {st : List Value} {h : am_H} {nc ns : Nat}
theorem ra_N_none : ra_N w h0_z none := fun _ h => by cases h
theorem ra_N_go {ls : am_L} {st : List Value} {h : am_H} {nc ns : Nat} (hK : ra_K w cs) (hL : ra_L w.1 ls) (hS : ra_S w.1 st) (hP : ra_P w h0_z h) : ra_N w h0_z (am_go i cs ls st am_ks0 h nc ns) := by
  intro x hf_z
  unfold am_go am_nx at hf_z
  split at hf_z
  · cases hf_z
  · rename_i j r
    cases hb_z : Nat.beq j.1 (i.1 + i.2.1) with
    | false => rw [hb_z] at hf_z; cases hf_z
    | true => rw [hb_z] at hf_z; cases hf_z; exact ⟨_, _, _, _, _, _, rfl, hK, hL, hS, hP⟩
theorem ra_N_cond {b : Bool} {r : am_R} (h : b = true → ra_N w h0_z r) : ra_N w h0_z (cond b r none) := by
  cases b
  · exact ra_N_none
  · exact h rfl
theorem ra_N_ite {p : Prop} [Decidable p] {r : am_R} (h : ¬ p → ra_N w h0_z r) : ra_N w h0_z (if p then none else r) := by
  split
  · exact ra_N_none
  · rename_i hp_z
    exact h hp_z
theorem ra_N_jp {a : Nat} {t : Int} {st : List Value} (hK : ra_K w M.2.2.2) (hL : ra_L w.1 ls) (hS : ra_S w.1 st) (hP : ra_P w h0_z h) : ra_N w h0_z (am_jp M a t ls st am_ks0 h nc ns) := by
  intro x hf_z
  unfold am_jp at hf_z
  split at hf_z
  · cases hf_z
  · rename_i j r hd_z
    split at hf_z
    · cases hf_z
      refine ⟨_, _, _, _, _, _, rfl, fun i hi_z => hK i ?_, hL, hS, hP⟩
      rw [← hd_z] at hi_z
      exact List.mem_of_mem_drop hi_z
    · cases hf_z
theorem ra_N_sw {t : Int} {st : List Value} (hK : ra_K w M.2.2.2) (hL : ra_L w.1 ls) (hS : ra_S w.1 st) (hP : ra_P w h0_z h) : ra_N w h0_z (am_sw M t ls st am_ks0 h nc ns) := by
  intro x hf_z
  unfold am_sw at hf_z
  split at hf_z
  · cases hf_z
  · rename_i j r hd_z
    cases hf_z
    refine ⟨_, _, _, _, _, _, rfl, fun i hi_z => hK i ?_, hL, hS, hP⟩
    rw [← hd_z, am_seek_suf] at hi_z
    exact List.mem_of_mem_drop hi_z
theorem ra_N_br {b : Bool} {off : Int} {st : List Value} (h1_z : ra_K w cs) (h2_z : ra_K w M.2.2.2) (hL : ra_L w.1 ls) (hS : ra_S w.1 st) (hP : ra_P w h0_z h) : ra_N w h0_z (am_br M i cs b off ls st am_ks0 h nc ns) := by
  unfold am_br
  cases b
  · exact ra_N_go h1_z hL hS hP
  · exact ra_N_jp h2_z hL hS hP
theorem ra_N_ix {j : Int32} {n : Nat} {k : Nat → am_R} (h : ∀ q, q < n → ra_N w h0_z (k q)) : ra_N w h0_z (am_ix j n k) := by
  unfold am_ix
  refine ra_N_ite (fun hp_z => h _ ?_)
  omega
theorem ra_N_pI {v : Value} {k : Value → am_R} (h : ∀ x : Int32, v = .int x → ra_N w h0_z (k (.int x))) : ra_N w h0_z (am_pushI v k) := by
  unfold am_pushI; split
  · exact h _ rfl
  · exact ra_N_none
theorem ra_N_pL {v : Value} {k : Value → am_R} (h : ∀ x : Int64, v = .long x → ra_N w h0_z (k (.long x))) : ra_N w h0_z (am_pushL v k) := by
  unfold am_pushL; split
  · exact h _ rfl
  · exact ra_N_none
theorem ra_N_pR {v : Value} {k : Value → am_R} (h : ∀ x : Nat, v = .ref x → ra_N w h0_z (k (.ref x))) : ra_N w h0_z (am_pushR v k) := by
  unfold am_pushR; split
  · exact h _ rfl
  · exact ra_N_none
theorem ra_N_ald {a : Value} {j : Int32} {ty : FieldType} {k : Value → am_R} (hP : ra_P w h0_z h) (ha_z : ra_V w.1 a) (hk_z : ∀ v, ra_V w.1 v → ra_N w h0_z (k v)) : ra_N w h0_z (am_ald am_G0 am_ks0 h a j ty k) := by
  unfold am_ald; split
  · rename_i o
    split
    · rename_i t n hkd
      exact ra_N_cond (fun _ => ra_N_ix (fun q hq_z => hk_z _ (fun m e => hP.2.1 o _ _ q m (ha_z o rfl) hkd hq_z e)))
    · exact ra_N_none
  · split
    · exact ra_N_cond (fun _ => ra_N_ix (fun _ _ => hk_z _ ra_Vi))
    · exact ra_N_none
  · exact ra_N_none
theorem ra_N_ast {a : Value} {j : Int32} {ty : FieldType} {v : Value} {k : am_H → am_R} (hP : ra_P w h0_z h) (ha_z : ra_V w.1 a) (hv_z : ra_V w.1 v) (hk_z : ∀ h, ra_P w h0_z h → ra_N w h0_z (k h)) : ra_N w h0_z (am_ast am_ks0 h a j ty v k) := by
  unfold am_ast; split
  · rename_i o
    split
    · exact ra_N_cond (fun _ => ra_N_ix (fun q hq_z => hk_z _ (ra_up hP (ha_z o rfl) hv_z)))
    · exact ra_N_none
  · exact ra_N_none
theorem ra_N_aald {o : Nat} {j : Int32} {k : Value → am_R} (hP : ra_P w h0_z h) (ha_z : w.1 o = true) (hk_z : ∀ v, ra_V w.1 v → ra_N w h0_z (k v)) : ra_N w h0_z (am_aald am_ks0 h o j k) := by
  unfold am_aald; split
  · rename_i s n hkd
    exact ra_N_ix (fun q hq_z => hk_z _ (fun m e => hP.2.1 o _ _ q m ha_z hkd hq_z e))
  · exact ra_N_none
theorem ra_N_len {a : Value} {k : Value → am_R} (hk_z : ∀ x : Int32, ra_N w h0_z (k (.int x))) : ra_N w h0_z (am_len am_G0 am_ks0 a k) := by
  unfold am_len; split
  · split
    · exact hk_z _
    · exact ra_N_none
  · split
    · exact hk_z _
    · exact ra_N_none
  · exact ra_N_none
theorem ra_N_text {j : Int32} {st : List Value} (hK : ra_K w cs) (hL : ra_L w.1 ls) (hS : ra_S w.1 st) (hP : ra_P w h0_z h) : ra_N w h0_z (am_text am_G0 M i cs ls st am_ks0 h nc ns j) := ra_N_cond (fun _ => ra_N_ix (fun _ _ => ra_N_go hK hL (ra_Sc ra_Vi hS) hP))
theorem ra_N_math {g : Int32 → Int32 → Int32} (hK : ra_K w cs) (hL : ra_L w.1 ls) (hS : ra_S w.1 st) (hP : ra_P w h0_z h) : ra_N w h0_z (am_math M i cs ls st am_ks0 h nc ns g) := by
  unfold am_math; split
  · exact ra_N_cond (fun _ => ra_N_go hK hL (ra_Sc ra_Vi (ra_St (ra_St hS))) hP)
  · exact ra_N_none
theorem ra_N_new : ra_N w h0_z (am_new am_G0 M false i cs ls st am_ks0 h nc ns) := ra_N_cond (fun h => by cases h)
theorem ra_N_newA {ty : FieldType} : ra_N w h0_z (am_newA M false ty i cs ls st am_ks0 h nc ns) := by
  unfold am_newA; split
  · exact ra_N_ite (fun _ => ra_N_cond (fun h => by cases h))
  · exact ra_N_none
/-- no method answers a reference here -/
def ra_R (w : ra_W) (r : Option Value) : Prop := ∀ v, r = some v → ra_V w.1 v
def ra_RC (w : ra_W) (h0_z : am_H) (rc : am_rec) : Prop := ∀ a as h r, w.2.2 a = true → ra_S w.1 as → ra_P w h0_z h → rc a as am_ks0 h = some r → r.2.1 = am_ks0 ∧ ra_R w r.1 ∧ ra_P w h0_z r.2.2
theorem ra_N_calls {a : Nat} {as rest : List Value} (hS : ra_S w.1 rest) (hL : ra_L w.1 ls) (hr : ∀ r, rc a as am_ks0 h = some r → r.2.1 = am_ks0 ∧ ra_R w r.1 ∧ ra_P w h0_z r.2.2) (hK : ra_K w cs) : ra_N w h0_z (am_calls false M M' a rc i cs ls as rest am_ks0 h nc ns) := by
  unfold am_calls
  refine ra_N_cond (fun _ => ?_)
  split
  · exact ra_N_none
  · rename_i r ks' h' hq_z
    have h1_z := hr _ hq_z
    dsimp only at h1_z
    obtain ⟨rfl, h2_z, h3_z⟩ := h1_z
    refine ra_N_cond (fun _ => ra_N_go hK hL (ra_Sa ?_ hS) h3_z)
    intro v hv_z
    cases r with
    | none => exact absurd hv_z List.not_mem_nil
    | some x =>
      have e := List.mem_singleton.mp hv_z
      subst e
      exact h2_z _ rfl
theorem ra_Sd {A : Nat → Bool} {st : List Value} {n : Nat} (h : ra_S A st) : ra_S A (st.drop n) := fun v hv_z => h v (List.mem_of_mem_drop hv_z)
theorem ra_Stk {A : Nat → Bool} {st : List Value} {n : Nat} (h : ra_S A st) : ra_S A (st.take n).reverse := fun v hv_z => h v (List.mem_of_mem_take (List.mem_reverse.mp hv_z))
theorem ra_N_callV (hr : ra_RC w h0_z rc) (ha_z : w.2.2 i.2.2.2.1.1 = true) (hK : ra_K w cs) (hL : ra_L w.1 ls) (hS : ra_S w.1 st) (hP : ra_P w h0_z h) : ra_N w h0_z (am_callV false am_G0 M rc i cs ls st am_ks0 h nc ns) := by
  unfold am_callV; split
  · exact ra_N_none
  · rename_i M1 _
    split
    · rename_i o rest hd_z
      have hd2_z : ra_S w.1 (.ref o :: rest) := by
        rw [← hd_z]
        exact ra_Sd hS
      split
      · exact ra_N_cond (fun _ => ra_N_calls (ra_St hd2_z) hL (fun r hq_z => hr _ _ _ r ha_z (ra_Sc (ra_Sh hd2_z) (ra_Stk hS)) hP hq_z) hK)
      · exact ra_N_none
    · exact ra_N_none
theorem ra_N_callS (hr : ra_RC w h0_z rc) (ha_z : w.2.2 i.2.2.2.1.1 = true) (hK : ra_K w cs) (hL : ra_L w.1 ls) (hS : ra_S w.1 st) (hP : ra_P w h0_z h) : ra_N w h0_z (am_callS false am_G0 M rc i cs ls st am_ks0 h nc ns) := by
  unfold am_callS; split
  · exact ra_N_none
  · exact ra_N_cond (fun _ => ra_N_calls (ra_Sd hS) hL (fun r hq_z => hr _ _ _ r ha_z (ra_Stk hS) hP hq_z) hK)
set_option maxHeartbeats 8000000 in
theorem ra_one_N (hr : ra_RC w h0_z rc) (hi_z : ra_I w i = true) (h1_z : ra_K w cs) (h2_z : ra_K w M.2.2.2) (hL : ra_L w.1 ls) (hS : ra_S w.1 st) (hP : ra_P w h0_z h) : ra_N w h0_z (am_one am_φ false am_G0 rc M (i :: cs, ls, st, am_ks0, h, nc, ns)) := by
  obtain ⟨pc, len, ins, ⟨a, b, c⟩, v0_z⟩ := i
  cases ins
  case getfield idx =>
    simp only [am_one]
    split
    · rename_i o st1_z
      split
      · rename_i ci_z hkd
        refine ra_N_cond (fun hc_z => ra_N_go h1_z hL (ra_Sc ?_ (ra_St hS)) hP)
        have e := Nat.eq_of_beq_eq_true hc_z
        subst e
        exact fun m e => hP.1 o _ _ m (ra_Sh hS o rfl) hkd hi_z e
      · exact ra_N_none
    · exact ra_N_none
  case putfield idx =>
    simp only [am_one]
    split
    · split
      · exact ra_N_cond (fun _ => ra_N_go h1_z hL (ra_St (ra_St hS)) (ra_up hP (ra_Sh (ra_St hS) _ rfl) (ra_Sh hS)))
      · exact ra_N_none
    · exact ra_N_none
  case aastore => cases hi_z
  case aaload =>
    simp only [am_one]
    split
    · exact ra_N_aald hP (ra_Sh (ra_St hS) _ rfl) (fun v hv_z => ra_N_pR (fun x e => ra_N_go h1_z hL (ra_Sc (fun n q => hv_z n (e.trans q)) (ra_St (ra_St hS))) hP))
    · exact ra_N_none
  case iastore =>
    simp only [am_one]
    split
    · exact ra_N_pI (fun x _ => ra_N_ast hP (ra_Sh (ra_St (ra_St hS))) ra_Vi (fun h hG => ra_N_go h1_z hL (ra_St (ra_St (ra_St hS))) hG))
    · exact ra_N_none
  case bastore =>
    simp only [am_one]
    split
    · exact ra_N_cond (fun hf_z => ra_N_pI (fun x hx_z => ra_N_ast hP (ra_Sh (ra_St (ra_St hS))) ra_Vi (fun h hG => ra_N_go h1_z hL (ra_St (ra_St (ra_St hS))) hG)))
    · exact ra_N_none
  case lastore =>
    simp only [am_one]
    split
    · exact ra_N_pL (fun x _ => ra_N_ast hP (ra_Sh (ra_St (ra_St hS))) ra_Vl (fun h hG => ra_N_go h1_z hL (ra_St (ra_St (ra_St hS))) hG))
    · exact ra_N_none
  case invokevirtual idx =>
    match c, hi_z with
    | 0, hi_z =>
      simp only [am_one]
      split
      · exact ra_N_text h1_z hL (ra_St (ra_St hS)) hP
      · exact ra_N_none
    | c + 1, hi_z => exact ra_N_callV hr hi_z h1_z hL hS hP
  case invokespecial idx =>
    match c, hi_z with
    | 0, hi_z =>
      simp only [am_one]
      split
      · exact ra_N_cond (fun _ => ra_N_go h1_z hL (ra_St hS) hP)
      · exact ra_N_none
    | c + 1, hi_z => exact ra_N_callV hr hi_z h1_z hL hS hP
  case invokestatic idx =>
    match c, hi_z with
    | 0, hi_z => cases hi_z
    | 1, hi_z => exact ra_N_math h1_z hL hS hP
    | 2, hi_z => exact ra_N_math h1_z hL hS hP
    | c + 3, hi_z => exact ra_N_callS hr hi_z h1_z hL hS hP
  case aload k =>
    simp only [am_one]
    split
    · rename_i x hx_z
      exact ra_N_go h1_z hL (ra_Sc (ra_Lg hL hx_z) hS) hP
    · exact ra_N_go h1_z hL (ra_Sc ra_Va hS) hP
    · exact ra_N_none
  case aload_n k =>
    simp only [am_one]
    split
    · rename_i x hx_z
      exact ra_N_go h1_z hL (ra_Sc (ra_Lg hL hx_z) hS) hP
    · exact ra_N_go h1_z hL (ra_Sc ra_Va hS) hP
    · exact ra_N_none
  all_goals ((simp only [am_one]) <;> (repeat' (first | with_reducible exact ra_N_none | with_reducible exact ra_N_new | with_reducible exact ra_N_newA | with_reducible refine ra_N_cond (fun _ => ?_) | with_reducible refine ra_N_ite (fun _ => ?_) | with_reducible refine ra_N_pI (fun _ _ => ?_) | with_reducible refine ra_N_pL (fun _ _ => ?_) | with_reducible refine ra_N_pR (fun _ _ => ?_) | with_reducible refine ra_N_ald hP ?_ (fun _ _ => ?_) | with_reducible refine ra_N_aald hP ?_ (fun _ _ => ?_) | with_reducible refine ra_N_len (fun _ => ?_) | with_reducible refine ra_N_go h1_z ?_ ?_ hP | with_reducible refine ra_N_jp h2_z ?_ ?_ hP | with_reducible refine ra_N_sw h2_z ?_ ?_ hP | with_reducible refine ra_N_br h1_z h2_z ?_ ?_ hP | with_reducible exact hL | with_reducible exact hS | with_reducible refine ra_Sc ?_ ?_ | with_reducible exact ra_Vi | with_reducible exact ra_Vl | with_reducible exact ra_Va | with_reducible exact ra_St hS | with_reducible exact ra_St (ra_St hS) | with_reducible exact ra_St (ra_St (ra_St hS)) | with_reducible exact ra_Sh hS | with_reducible exact ra_Sh (ra_St hS) | with_reducible exact ra_Sh (ra_St (ra_St hS)) | with_reducible refine ra_Ls hL ?_ | with_reducible refine ra_Ls2 hL ?_ | with_reducible assumption | with_reducible exact ra_Sh (ra_St hS) _ rfl | with_reducible exact ra_Sh hS _ rfl | split)))
end RAN
theorem ra_end {w : ra_W} {M : am_M} {f : am_F} {r : am_O} (he : am_end M f = some r) : ra_R w r.1 := by
  obtain ⟨cs, ls, st, ks, h, nc, ns⟩ := f
  have hret : ∀ v, ra_R w v → am_ret M v ks h nc ns = some r → ra_R w r.1 := by
    intro v hv_z e
    unfold am_ret at e
    cases hb_z : (Nat.ble nc M.2.2.1.2.2.1 && Nat.ble ns M.2.2.1.2.2.2) with
    | false => rw [hb_z] at e; cases e
    | true => rw [hb_z] at e; cases e; exact hv_z
  have hi_z : ∀ x : Int32, ra_R w (some (.int x)) := fun x v e => by cases e; exact ra_Vi
  have hl_z : ∀ x : Int64, ra_R w (some (.long x)) := fun x v e => by cases e; exact ra_Vl
  have hn_z : ra_R w none := fun v e => by cases e
  unfold am_end at he
  split at he
  · cases he
  · rename_i heq
    cases heq
    split at he
    · split at he
      · split at he
        · rename_i ty _
          generalize hb_z : am_fit ty _ = bb at he
          cases bb with
          | false => cases he
          | true => exact hret _ (hi_z _) he
        · cases he
      · cases he
    · split at he
      · split at he
        · exact hret _ (hl_z _) he
        · cases he
      · cases he
    · split at he
      · split at he
        · exact hret _ hn_z he
        · cases he
      · cases he
    · cases he
theorem ra_run {w : ra_W} {h0_z : am_H} (hC : ∀ a M, w.2.2 a = true → am_prog[a]? = some M → ra_K w M.2.2.2) : ∀ (n : Nat) (M : am_M) (cs : List am_I) (ls : am_L) (st : List Value) (h : am_H) (nc ns : Nat) (r : am_O), ra_K w M.2.2.2 → ra_K w cs → ra_L w.1 ls → ra_S w.1 st → ra_P w h0_z h → am_run am_φ false n am_G0 M (cs, ls, st, am_ks0, h, nc, ns) = some r → r.2.1 = am_ks0 ∧ ra_R w r.1 ∧ ra_P w h0_z r.2.2 := by
  intro n
  induction n with
  | zero => intro M cs ls st h nc ns r _ _ _ _ _ hr; cases hr
  | succ n ih_z =>
    intro M cs ls st h nc ns r hM hK hL hS hG hr
    rw [am_run_s] at hr
    split at hr
    · rename_i r0_z he
      cases hr
      have := rw_end_h he
      exact ⟨this.1, ra_end he, by rw [this.2]; exact hG⟩
    · split at hr
      · rename_i f' hone
        cases cs with
        | nil => cases hone
        | cons i cs =>
          have hRC : ra_RC w h0_z (am_rc false n am_G0) := by
            intro a as h r ha_z hs_z hG hq_z
            unfold am_rc at hq_z
            split at hq_z
            · cases hq_z
            · rename_i M' hM'
              have hk_z := hC a M' ha_z hM'
              exact ih_z M' _ _ _ h 0 0 r hk_z hk_z (ra_La hs_z) ra_S0 hG hq_z
          obtain ⟨cs', ls', st', h', nc', ns', e, k1_z, k2_z, k3_z, k4_z⟩ := ra_one_N hRC (hK i (List.mem_cons_self ..)) (fun j hj_z => hK j (List.mem_cons_of_mem _ hj_z)) hM hL hS hG _ hone
          cases e
          exact ih_z M cs' ls' st' h' nc' ns' r hM k1_z k2_z k3_z k4_z hr
      · cases hr
def ra_Mb (w : ra_W) (a : Nat) : Bool := !(w.2.2 a) || (match am_prog[a]? with
  | some M => M.2.2.2.all (ra_I w)
  | none => true)
theorem ra_KM {w : ra_W} (hall : (List.range 256).all (ra_Mb w) = true) {a : Nat} {M : am_M} (ha_z : w.2.2 a = true) (hM : am_prog[a]? = some M) : ra_K w M.2.2.2 := by
  have hl_z : a < am_prog.length := (List.getElem?_eq_some_iff.mp hM).1
  rw [am_prog_len] at hl_z
  have hb_z := List.all_eq_true.mp hall a (List.mem_range.mpr (by omega))
  unfold ra_Mb at hb_z
  rw [ha_z, hM] at hb_z
  exact List.all_eq_true.mp hb_z
/-- a run of these methods leaves all other cells -/
theorem ra_rn {w : ra_W} (hall : (List.range 256).all (ra_Mb w) = true) {a n : Nat} {M : am_M} {as : List Value} {h h' : am_H} {r : Option Value} (ha_z : w.2.2 a = true) (hM : am_prog[a]? = some M) (hs_z : ra_S w.1 as) (hP : ra_P w h h) (hr : rn n M 0 (lv_args 0 as) [] h r h') : ∀ o k, w.1 o = false → h' o k = h o k := by
  obtain ⟨-, -, nc, ns, m, -, hrun⟩ := hr
  have hk_z := ra_KM hall ha_z hM
  exact (ra_run (fun a M ha_z hM => ra_KM hall ha_z hM) m M _ _ _ h nc ns _ hk_z (fun j hj_z => hk_z j (List.mem_of_mem_drop hj_z)) (ra_La hs_z) ra_S0 hP hrun).2.2.2.2
