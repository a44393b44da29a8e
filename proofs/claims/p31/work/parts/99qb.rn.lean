/-! ===== A RUN THAT ENDS KEEPS THE CELLS' CODES, AND MAKES NONE ===== -/
/-- what may be done: which fields (class, field) are written, whether rows are, which methods are called -/
abbrev rw_W : Type := (Nat → Nat → Bool) × Bool × (Nat → Bool)
def rw_I (w : rw_W) (i : am_I) : Bool := match i.2.2.1 with
  | .putfield _ => w.1 i.2.2.2.1.1 i.2.2.2.1.2.1
  | .aastore => false
  | .iastore => w.2.1
  | .bastore => w.2.1
  | .lastore => w.2.1
  | .invokespecial _ => (match i.2.2.2.1.2.2 with
    | 0 => true
    | _ => w.2.2 i.2.2.2.1.1)
  | .invokevirtual _ => (match i.2.2.2.1.2.2 with
    | 0 => true
    | _ => w.2.2 i.2.2.2.1.1)
  | .invokestatic _ => (match i.2.2.2.1.2.2 with
    | 0 => true
    | 1 => true
    | 2 => true
    | _ => w.2.2 i.2.2.2.1.1)
  | _ => true
def rw_K (w : rw_W) (cs : List am_I) : Prop := ∀ i ∈ cs, rw_I w i = true
/-- what is written so keeps P -/
def rw_P (w : rw_W) (P : am_H → Prop) : Prop :=
  (∀ h o ci f v, P h → am_ks0[o]? = some (.inl ci) → w.1 ci f = true → am_fit ((am_tys ci).getD f .int) v = true → P (am_up h o f v)) ∧
  (w.2.1 = true → ∀ h o q n ty v, P h → am_ks0[o]? = some (.inr (ty, n)) → (∀ s, ty ≠ .object s) → q < n → am_fit ty v = true → P (am_up h o q v))
def rw_N (w : rw_W) (P : am_H → Prop) (r : am_R) : Prop := ∀ x, r = some x → ∃ cs ls st h nc ns, x = .inl (cs, ls, st, am_ks0, h, nc, ns) ∧ rw_K w cs ∧ P h
section RNN
variable {w : rw_W} {P : am_H → Prop} {rc : am_rec} {M M' : am_M} {i : am_I} {cs : List am_I} {ls : am_L} {st : List Value} {h : am_H} {nc ns : Nat}
theorem rw_N_none : rw_N w P none := fun _ h => by cases h
theorem rw_N_go {ls : am_L} {st : List Value} {h : am_H} {nc ns : Nat} (hK : rw_K w cs) (hP : P h) : rw_N w P (am_go i cs ls st am_ks0 h nc ns) := by
  intro x hf
  unfold am_go am_nx at hf
  split at hf
  · cases hf
  · rename_i j r
    cases hb : Nat.beq j.1 (i.1 + i.2.1) with
    | false => rw [hb] at hf; cases hf
    | true => rw [hb] at hf; cases hf; exact ⟨_, _, _, _, _, _, rfl, hK, hP⟩
theorem rw_N_cond {b : Bool} {r : am_R} (h : b = true → rw_N w P r) : rw_N w P (cond b r none) := by
  cases b
  · exact rw_N_none
  · exact h rfl
theorem rw_N_ite {p : Prop} [Decidable p] {r : am_R} (h : ¬ p → rw_N w P r) : rw_N w P (if p then none else r) := by
  split
  · exact rw_N_none
  · rename_i hp
    exact h hp
theorem rw_N_jp {a : Nat} {t : Int} (hK : rw_K w M.2.2.2) (hP : P h) : rw_N w P (am_jp M a t ls st am_ks0 h nc ns) := by
  intro x hf
  unfold am_jp at hf
  split at hf
  · cases hf
  · rename_i j r hd
    split at hf
    · cases hf
      refine ⟨_, _, _, _, _, _, rfl, fun i hi => hK i ?_, hP⟩
      rw [← hd] at hi
      exact List.mem_of_mem_drop hi
    · cases hf
theorem rw_N_sw {t : Int} (hK : rw_K w M.2.2.2) (hP : P h) : rw_N w P (am_sw M t ls st am_ks0 h nc ns) := by
  intro x hf
  unfold am_sw at hf
  split at hf
  · cases hf
  · rename_i j r hd
    cases hf
    refine ⟨_, _, _, _, _, _, rfl, fun i hi => hK i ?_, hP⟩
    rw [← hd, am_seek_suf] at hi
    exact List.mem_of_mem_drop hi
theorem rw_N_br {b : Bool} {off : Int} {st : List Value} (h1 : rw_K w cs) (h2 : rw_K w M.2.2.2) (hP : P h) : rw_N w P (am_br M i cs b off ls st am_ks0 h nc ns) := by
  unfold am_br
  cases b
  · exact rw_N_go h1 hP
  · exact rw_N_jp h2 hP
theorem rw_N_ix {j : Int32} {n : Nat} {k : Nat → am_R} (h : ∀ q, q < n → rw_N w P (k q)) : rw_N w P (am_ix j n k) := by
  unfold am_ix
  refine rw_N_ite (fun hp => h _ ?_)
  omega
theorem rw_N_pI {v : Value} {k : Value → am_R} (h : ∀ x : Int32, v = .int x → rw_N w P (k (.int x))) : rw_N w P (am_pushI v k) := by
  unfold am_pushI; split
  · exact h _ rfl
  · exact rw_N_none
theorem rw_N_pL {v : Value} {k : Value → am_R} (h : ∀ x : Int64, v = .long x → rw_N w P (k (.long x))) : rw_N w P (am_pushL v k) := by
  unfold am_pushL; split
  · exact h _ rfl
  · exact rw_N_none
theorem rw_N_pR {v : Value} {k : Value → am_R} (h : ∀ x : Nat, v = .ref x → rw_N w P (k (.ref x))) : rw_N w P (am_pushR v k) := by
  unfold am_pushR; split
  · exact h _ rfl
  · exact rw_N_none
theorem rw_N_ald {a : Value} {j : Int32} {ty : FieldType} {k : Value → am_R} (hk : ∀ v, rw_N w P (k v)) : rw_N w P (am_ald am_G0 am_ks0 h a j ty k) := by
  unfold am_ald; split
  · split
    · exact rw_N_cond (fun _ => rw_N_ix (fun _ _ => hk _))
    · exact rw_N_none
  · split
    · exact rw_N_cond (fun _ => rw_N_ix (fun _ _ => hk _))
    · exact rw_N_none
  · exact rw_N_none
theorem rw_N_ast {a : Value} {j : Int32} {ty : FieldType} {v : Value} {k : am_H → am_R} (hW : rw_P w P) (hw : w.2.1 = true) (hP : P h) (ht : ∀ s, ty ≠ .object s) (hf : am_fit ty v = true) (hk : ∀ h, P h → rw_N w P (k h)) : rw_N w P (am_ast am_ks0 h a j ty v k) := by
  unfold am_ast; split
  · split
    · rename_i t n hkd
      refine rw_N_cond (fun hd => rw_N_ix (fun q hq => hk _ ?_))
      have := of_decide_eq_true hd
      subst this
      exact hW.2 hw _ _ _ _ _ _ hP hkd ht hq hf
    · exact rw_N_none
  · exact rw_N_none
theorem rw_N_aald {o : Nat} {j : Int32} {k : Value → am_R} (hk : ∀ v, rw_N w P (k v)) : rw_N w P (am_aald am_ks0 h o j k) := by
  unfold am_aald; split
  · exact rw_N_ix (fun _ _ => hk _)
  · exact rw_N_none
theorem rw_N_len {a : Value} {k : Value → am_R} (hk : ∀ v, rw_N w P (k v)) : rw_N w P (am_len am_G0 am_ks0 a k) := by
  unfold am_len; split
  · split
    · exact hk _
    · exact rw_N_none
  · split
    · exact hk _
    · exact rw_N_none
  · exact rw_N_none
theorem rw_N_text {j : Int32} {st : List Value} (hK : rw_K w cs) (hP : P h) : rw_N w P (am_text am_G0 M i cs ls st am_ks0 h nc ns j) := rw_N_cond (fun _ => rw_N_ix (fun _ _ => rw_N_go hK hP))
theorem rw_N_math {g : Int32 → Int32 → Int32} (hK : rw_K w cs) (hP : P h) : rw_N w P (am_math M i cs ls st am_ks0 h nc ns g) := by
  unfold am_math; split
  · exact rw_N_cond (fun _ => rw_N_go hK hP)
  · exact rw_N_none
theorem rw_N_new : rw_N w P (am_new am_G0 M false i cs ls st am_ks0 h nc ns) := rw_N_cond (fun h => by cases h)
theorem rw_N_newA {ty : FieldType} : rw_N w P (am_newA M false ty i cs ls st am_ks0 h nc ns) := by
  unfold am_newA; split
  · exact rw_N_ite (fun _ => rw_N_cond (fun h => by cases h))
  · exact rw_N_none
def rw_RC (w : rw_W) (P : am_H → Prop) (rc : am_rec) : Prop := ∀ a as h r, w.2.2 a = true → P h → rc a as am_ks0 h = some r → r.2.1 = am_ks0 ∧ P r.2.2
theorem rw_N_calls {a : Nat} {as rest : List Value} (hr : ∀ r, rc a as am_ks0 h = some r → r.2.1 = am_ks0 ∧ P r.2.2) (hK : rw_K w cs) : rw_N w P (am_calls false M M' a rc i cs ls as rest am_ks0 h nc ns) := by
  unfold am_calls
  refine rw_N_cond (fun _ => ?_)
  split
  · exact rw_N_none
  · rename_i r ks' h' hq
    have h1 := hr _ hq
    dsimp only at h1
    obtain ⟨rfl, h2⟩ := h1
    exact rw_N_cond (fun _ => rw_N_go hK h2)
theorem rw_N_callV (hr : rw_RC w P rc) (ha : w.2.2 i.2.2.2.1.1 = true) (hK : rw_K w cs) (hP : P h) : rw_N w P (am_callV false am_G0 M rc i cs ls st am_ks0 h nc ns) := by
  unfold am_callV; split
  · exact rw_N_none
  · split
    · split
      · exact rw_N_cond (fun _ => rw_N_calls (fun r hq => hr _ _ _ r ha hP hq) hK)
      · exact rw_N_none
    · exact rw_N_none
theorem rw_N_callL (hK : rw_K w cs) : rw_N w P (am_callL false am_G0 M i cs ls st am_ks0 h nc ns) := rw_N_cond (fun _ => rw_N_calls (fun r hq => by cases hq) hK)
theorem rw_N_callS (hr : rw_RC w P rc) (ha : w.2.2 i.2.2.2.1.1 = true) (hK : rw_K w cs) (hP : P h) : rw_N w P (am_callS false am_G0 M rc i cs ls st am_ks0 h nc ns) := by
  unfold am_callS; split
  · exact rw_N_none
  · exact rw_N_cond (fun _ => rw_N_calls (fun r hq => hr _ _ _ r ha hP hq) hK)
set_option maxHeartbeats 8000000 in
theorem rw_one_N (hW : rw_P w P) (hr : rw_RC w P rc) (hi : rw_I w i = true) (h1 : rw_K w cs) (h2 : rw_K w M.2.2.2) (hP : P h) : rw_N w P (am_one am_φ false am_G0 rc M (i :: cs, ls, st, am_ks0, h, nc, ns)) := by
  obtain ⟨pc, len, ins, ⟨a, b, c⟩, v0⟩ := i
  cases ins
  case putfield idx =>
    simp only [am_one]
    split
    · split
      · rename_i ci hkd
        refine rw_N_cond (fun hc => rw_N_go h1 ?_)
        rw [Bool.and_eq_true] at hc
        have e := Nat.eq_of_beq_eq_true hc.1
        subst e
        exact hW.1 _ _ _ _ _ hP hkd hi hc.2
      · exact rw_N_none
    · exact rw_N_none
  case aastore => cases hi
  case iastore =>
    simp only [am_one]
    split
    · exact rw_N_pI (fun x _ => rw_N_ast hW hi hP (fun s h => by cases h) rfl (fun h hG => rw_N_go h1 hG))
    · exact rw_N_none
  case bastore =>
    simp only [am_one]
    split
    · refine rw_N_cond (fun hf => rw_N_pI (fun x hx => ?_))
      cases hx
      exact rw_N_ast hW hi hP (fun s h => by cases h) hf (fun h hG => rw_N_go h1 hG)
    · exact rw_N_none
  case lastore =>
    simp only [am_one]
    split
    · exact rw_N_pL (fun x _ => rw_N_ast hW hi hP (fun s h => by cases h) rfl (fun h hG => rw_N_go h1 hG))
    · exact rw_N_none
  case invokevirtual idx =>
    match c, hi with
    | 0, hi =>
      simp only [am_one]
      split
      · exact rw_N_text h1 hP
      · exact rw_N_none
    | c + 1, hi => exact rw_N_callV hr hi h1 hP
  case invokespecial idx =>
    match c, hi with
    | 0, hi =>
      simp only [am_one]
      split
      · exact rw_N_cond (fun _ => rw_N_go h1 hP)
      · exact rw_N_none
    | c + 1, hi => exact rw_N_callV hr hi h1 hP
  case invokestatic idx =>
    match c, hi with
    | 0, hi => exact rw_N_callL h1
    | 1, hi => exact rw_N_math h1 hP
    | 2, hi => exact rw_N_math h1 hP
    | c + 3, hi => exact rw_N_callS hr hi h1 hP
  all_goals ((simp only [am_one]) <;> (repeat' (first | with_reducible exact rw_N_none | with_reducible exact rw_N_go h1 hP | with_reducible exact rw_N_jp h2 hP | with_reducible exact rw_N_sw h2 hP | with_reducible exact rw_N_br h1 h2 hP | with_reducible exact rw_N_new | with_reducible exact rw_N_newA | with_reducible refine rw_N_cond (fun _ => ?_) | with_reducible refine rw_N_ite (fun _ => ?_) | with_reducible refine rw_N_pI (fun _ _ => ?_) | with_reducible refine rw_N_pL (fun _ _ => ?_) | with_reducible refine rw_N_pR (fun _ _ => ?_) | with_reducible refine rw_N_ald (fun _ => ?_) | with_reducible refine rw_N_aald (fun _ => ?_) | with_reducible refine rw_N_len (fun _ => ?_) | split)))
end RNN
theorem rw_end_h {M : am_M} {f : am_F} {r : am_O} (he : am_end M f = some r) : r.2.1 = f.2.2.2.1 ∧ r.2.2 = f.2.2.2.2.1 := by
  obtain ⟨cs, ls, st, ks, h, nc, ns⟩ := f
  have hret : ∀ v, am_ret M v ks h nc ns = some r → r.2.1 = ks ∧ r.2.2 = h := by
    intro v hv
    unfold am_ret at hv
    cases hb : (Nat.ble nc M.2.2.1.2.2.1 && Nat.ble ns M.2.2.1.2.2.2) with
    | false => rw [hb] at hv; cases hv
    | true => rw [hb] at hv; cases hv; exact ⟨rfl, rfl⟩
  unfold am_end at he
  split at he
  · cases he
  · rename_i heq
    cases heq
    split at he
    · split at he
      · split at he
        · rename_i ty _
          generalize hb : am_fit ty _ = bb at he
          cases bb with
          | false => cases he
          | true => exact hret _ he
        · cases he
      · cases he
    · split at he
      · split at he
        · exact hret _ he
        · cases he
      · cases he
    · split at he
      · split at he
        · exact hret _ he
        · cases he
      · cases he
    · cases he
theorem rw_run {w : rw_W} {P : am_H → Prop} (hW : rw_P w P) (hC : ∀ a M, w.2.2 a = true → am_prog[a]? = some M → rw_K w M.2.2.2 ∨ ∀ n as h r, P h → am_run am_φ false n am_G0 M (M.2.2.2, lv_args 0 as, [], am_ks0, h, 0, 0) = some r → r.2.1 = am_ks0 ∧ P r.2.2) : ∀ (n : Nat) (M : am_M) (cs : List am_I) (ls : am_L) (st : List Value) (h : am_H) (nc ns : Nat) (r : am_O), rw_K w M.2.2.2 → rw_K w cs → P h → am_run am_φ false n am_G0 M (cs, ls, st, am_ks0, h, nc, ns) = some r → r.2.1 = am_ks0 ∧ P r.2.2 := by
  intro n
  induction n with
  | zero => intro M cs ls st h nc ns r _ _ _ hr; cases hr
  | succ n ih =>
    intro M cs ls st h nc ns r hM hK hG hr
    rw [am_run_s] at hr
    split at hr
    · rename_i r0 he
      cases hr
      have := rw_end_h he
      exact ⟨this.1, by rw [this.2]; exact hG⟩
    · split at hr
      · rename_i f' hone
        cases cs with
        | nil => cases hone
        | cons i cs =>
          have hRC : rw_RC w P (am_rc false n am_G0) := by
            intro a as h r ha hG hq
            unfold am_rc at hq
            split at hq
            · cases hq
            · rename_i M' hM'
              rcases hC a M' ha hM' with hk | hk
              · exact ih M' _ _ _ h 0 0 r hk hk hG hq
              · exact hk n as h r hG hq
          obtain ⟨cs', ls', st', h', nc', ns', e, k1, k2⟩ := rw_one_N hW hRC (hK i (List.mem_cons_self ..)) (fun j hj => hK j (List.mem_cons_of_mem _ hj)) hM hG _ hone
          cases e
          exact ih M cs' ls' st' h' nc' ns' r hM k1 k2 hr
      · cases hr
/-- methods that make nothing -/
def rg_no : List Nat := [0, 1, 2, 3, 6, 7, 8, 9, 10, 11, 12, 13, 142]
def rg_ok (a : Nat) : Bool := !(rg_no.any (fun b => Nat.beq b a))
def rn_w : rw_W := (fun ci f => !(Nat.beq (rg_cl ci f) 9), true, rg_ok)
theorem rn_wP : rw_P rn_w rg_Gd := by
  refine ⟨fun h o ci f v hP hk hc hf => rg_up_f hP hk ?_ hf, fun _ h o q n ty v hP hk ht hq hf => rg_up_a hP hk ht hq hf⟩
  have hc' : (!(Nat.beq (rg_cl ci f) 9)) = true := hc
  cases hq : Nat.beq (rg_cl ci f) 9 with
  | false => rfl
  | true => rw [hq] at hc'; cases hc'
def rg_M (a : Nat) : Bool := !(rg_ok a) || (match am_prog[a]? with
  | some M => M.2.2.2.all (rw_I rn_w)
  | none => true)
set_option maxRecDepth 1000000 in
theorem rg_M_0 : ((List.range 64).drop 0).all rg_M = true := by decide +kernel
set_option maxRecDepth 1000000 in
theorem rg_M_1 : ((List.range 128).drop 64).all rg_M = true := by decide +kernel
set_option maxRecDepth 1000000 in
theorem rg_M_2 : ((List.range 192).drop 128).all rg_M = true := by decide +kernel
set_option maxRecDepth 1000000 in
theorem rg_M_3 : ((List.range 256).drop 192).all rg_M = true := by decide +kernel
theorem rg_M_ok {a : Nat} {M : am_M} (ha : rg_ok a = true) (hM : am_prog[a]? = some M) : ∀ i ∈ M.2.2.2, rw_I rn_w i = true := by
  have hl : a < am_prog.length := (List.getElem?_eq_some_iff.mp hM).1
  rw [am_prog_len] at hl
  have hm : a ∈ ((List.range 64).drop 0) ++ (((List.range 128).drop 64) ++ (((List.range 192).drop 128) ++ ((List.range 256).drop 192))) := by
    have e : ((List.range 64).drop 0) ++ (((List.range 128).drop 64) ++ (((List.range 192).drop 128) ++ ((List.range 256).drop 192))) = List.range 256 := by decide +kernel
    rw [e]
    exact List.mem_range.mpr (by omega)
  have hb : rg_M a = true := by
    rcases List.mem_append.mp hm with h | h
    · exact List.all_eq_true.mp rg_M_0 a h
    · rcases List.mem_append.mp h with h | h
      · exact List.all_eq_true.mp rg_M_1 a h
      · rcases List.mem_append.mp h with h | h
        · exact List.all_eq_true.mp rg_M_2 a h
        · exact List.all_eq_true.mp rg_M_3 a h
  unfold rg_M at hb
  rw [ha, hM] at hb
  exact List.all_eq_true.mp hb
def rn_K (cs : List am_I) : Prop := rw_K rn_w cs
theorem rn_KM {a : Nat} {M : am_M} (ha : rg_ok a = true) (hM : am_prog[a]? = some M) : rn_K M.2.2.2 := fun i hi => rg_M_ok ha hM i hi
theorem rn_run (n : Nat) (M : am_M) (cs : List am_I) (ls : am_L) (st : List Value) (h : am_H) (nc ns : Nat) (r : am_O) (h1 : rn_K M.2.2.2) (h2 : rn_K cs) (h3 : rg_Gd h) (h4 : am_run am_φ false n am_G0 M (cs, ls, st, am_ks0, h, nc, ns) = some r) : r.2.1 = am_ks0 ∧ rg_Gd r.2.2 :=
  rw_run rn_wP (fun a M ha hM => Or.inl (rn_KM ha hM)) n M cs ls st h nc ns r h1 h2 h3 h4
