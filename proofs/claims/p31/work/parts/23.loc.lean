/-! ===== FEWER LOCALS: a run that needs these alone; HEAPS: facts, and what may have changed ===== -/
/-- the locals of ls' are among those of ls -/
def am_Lr (ls : am_L) : am_L → Prop
  | [] => True
  | q :: l => am_get ls q.1 = some q.2 ∧ am_Lr ls l
theorem am_Lr_mem {ls : am_L} : ∀ {l : am_L}, am_Lr ls l → ∀ q ∈ l, am_get ls q.1 = some q.2
  | [], _, q, hq => by cases hq
  | p :: l, h, q, hq => by
    rcases List.mem_cons.mp hq with rfl | hq
    · exact h.1
    · exact am_Lr_mem h.2 q hq
theorem am_Lr_of {ls : am_L} : ∀ {l : am_L}, (∀ q ∈ l, am_get ls q.1 = some q.2) → am_Lr ls l
  | [], _ => trivial
  | p :: l, h => ⟨h p List.mem_cons_self, am_Lr_of (fun q hq => h q (List.mem_cons_of_mem _ hq))⟩
theorem am_Lr_get {ls l : am_L} (h : am_Lr ls l) {k : Nat} {v : Value} (hg : am_get l k = some v) : am_get ls k = some v := am_Lr_mem h _ (am_get_mem hg)
theorem am_get_filter {p : Nat × Value → Bool} {k : Nat} {v : Value} : ∀ {ls : am_L}, am_get ls k = some v → p (k, v) = true → am_get (ls.filter p) k = some v
  | [], h, _ => by cases h
  | q :: l, h, hp => by
    unfold am_get at h
    cases hb : Nat.beq q.1 k with
    | true =>
      rw [hb, cond_true] at h
      have hk := Nat.eq_of_beq_eq_true hb
      have hv := Option.some.inj h
      obtain ⟨qk, qv⟩ := q
      dsimp only at hk hv
      subst hk; subst hv
      rw [List.filter_cons_of_pos hp]
      unfold am_get
      rw [hb]
      rfl
    | false =>
      rw [hb, cond_false] at h
      have ih := am_get_filter (p := p) h hp
      rw [List.filter_cons]
      split
      · unfold am_get
        rw [hb]
        exact ih
      · exact ih
theorem am_get_self {k : Nat} {v : Value} {l : am_L} : am_get ((k, v) :: l) k = some v := by
  unfold am_get
  rw [Nat.beq_refl]
  rfl
theorem am_get_ne {k j : Nat} {v : Value} {l : am_L} (h : ¬ j = k) : am_get ((j, v) :: l) k = am_get l k := by
  have hb : Nat.beq j k = false := by
    cases hq : Nat.beq j k with
    | false => rfl
    | true => exact absurd (Nat.eq_of_beq_eq_true hq) h
  show cond (Nat.beq j k) _ _ = _
  rw [hb]
  rfl
theorem am_Lr_set {ls l : am_L} (h : am_Lr ls l) (k : Nat) (v : Value) : am_Lr (am_set ls k v) (am_set l k v) := by
  refine am_Lr_of (fun q hq => ?_)
  unfold am_set at hq ⊢
  rcases List.mem_cons.mp hq with rfl | hq
  · exact am_get_self
  · obtain ⟨h1, h2⟩ := List.mem_filter.mp hq
    have h3 := h2
    rw [Bool.and_eq_true] at h3
    have hk : ¬ k = q.1 := fun e => by simp [e] at h3
    rw [am_get_ne hk]
    exact am_get_filter (am_Lr_mem h q h1) h2
theorem am_Lr_set2 {ls l : am_L} (h : am_Lr ls l) (k : Nat) (v : Value) : am_Lr (am_set2 ls k v) (am_set2 l k v) := by
  refine am_Lr_of (fun q hq => ?_)
  unfold am_set2 at hq ⊢
  rcases List.mem_cons.mp hq with rfl | hq
  · exact am_get_self
  · obtain ⟨h1, h2⟩ := List.mem_filter.mp hq
    have h3 := h2
    rw [Bool.and_eq_true] at h3
    have hk : ¬ k = q.1 := fun e => by simp [e] at h3
    rw [am_get_ne hk]
    exact am_get_filter (am_Lr_mem h q h1) h2
/-- an outcome with more locals -/
def am_Rl (r r' : am_R) : Prop := ∀ cs l st ks h nc ns, r' = some (.inl (cs, l, st, ks, h, nc, ns)) → ∃ ls, am_Lr ls l ∧ r = some (.inl (cs, ls, st, ks, h, nc, ns))
section AML
variable {ex : Bool} {G : am_G} {rc : am_rec} {M M' : am_M} {i : am_I} {cs : List am_I} {ls l : am_L} {st : List Value} {ks : List am_k} {h : am_H} {nc ns : Nat}
theorem am_Rl_none {r : am_R} : am_Rl r none := fun _ _ _ _ _ _ _ hh => by cases hh
theorem am_Rl_go {st : List Value} {ks : List am_k} {h : am_H} {nc ns : Nat} (hl : am_Lr ls l) : am_Rl (am_go i cs ls st ks h nc ns) (am_go i cs l st ks h nc ns) := by
  intro cs1 l1 st1 ks1 h1 nc1 ns1 hh
  unfold am_go am_nx at hh ⊢
  split at hh
  · cases hh
  · rename_i j r
    cases hb : Nat.beq j.1 (i.1 + i.2.1) with
    | false => rw [hb] at hh; cases hh
    | true => rw [hb] at hh; cases hh; exact ⟨ls, hl, rfl⟩
theorem am_Rl_jp {a : Nat} {t : Int} {st : List Value} (hl : am_Lr ls l) : am_Rl (am_jp M a t ls st ks h nc ns) (am_jp M a t l st ks h nc ns) := by
  intro cs1 l1 st1 ks1 h1 nc1 ns1 hh
  unfold am_jp at hh ⊢
  split at hh
  · cases hh
  · split at hh
    · cases hh
      exact ⟨ls, hl, if_pos (by assumption)⟩
    · cases hh
theorem am_Rl_sw {t : Int} {st : List Value} (hl : am_Lr ls l) : am_Rl (am_sw M t ls st ks h nc ns) (am_sw M t l st ks h nc ns) := by
  intro cs1 l1 st1 ks1 h1 nc1 ns1 hh
  unfold am_sw at hh ⊢
  split at hh
  · cases hh
  · cases hh
    exact ⟨ls, hl, rfl⟩
theorem am_Rl_br {b : Bool} {off : Int} {st : List Value} (hl : am_Lr ls l) : am_Rl (am_br M i cs b off ls st ks h nc ns) (am_br M i cs b off l st ks h nc ns) := by
  unfold am_br
  cases b
  · exact am_Rl_go hl
  · exact am_Rl_jp hl
theorem am_Rl_cond {b : Bool} {r r' : am_R} (h : am_Rl r r') : am_Rl (cond b r none) (cond b r' none) := by
  cases b
  · exact am_Rl_none
  · exact h
theorem am_Rl_ite {p : Prop} [Decidable p] {r r' : am_R} (h : am_Rl r r') : am_Rl (if p then none else r) (if p then none else r') := by
  split
  · exact am_Rl_none
  · exact h
theorem am_Rl_ix {j : Int32} {n : Nat} {k k' : Nat → am_R} (h : ∀ q, am_Rl (k q) (k' q)) : am_Rl (am_ix j n k) (am_ix j n k') := am_Rl_ite (h _)
theorem am_Rl_pI {v : Value} {k k' : Value → am_R} (h : ∀ v, am_Rl (k v) (k' v)) : am_Rl (am_pushI v k) (am_pushI v k') := by
  unfold am_pushI; split
  · exact h _
  · exact am_Rl_none
theorem am_Rl_pL {v : Value} {k k' : Value → am_R} (h : ∀ v, am_Rl (k v) (k' v)) : am_Rl (am_pushL v k) (am_pushL v k') := by
  unfold am_pushL; split
  · exact h _
  · exact am_Rl_none
theorem am_Rl_pR {v : Value} {k k' : Value → am_R} (h : ∀ v, am_Rl (k v) (k' v)) : am_Rl (am_pushR v k) (am_pushR v k') := by
  unfold am_pushR; split
  · exact h _
  · exact am_Rl_none
theorem am_Rl_ald {a : Value} {j : Int32} {ty : FieldType} {k k' : Value → am_R} (hk : ∀ v, am_Rl (k v) (k' v)) : am_Rl (am_ald G ks h a j ty k) (am_ald G ks h a j ty k') := by
  unfold am_ald; split
  · split
    · exact am_Rl_cond (am_Rl_ix (fun _ => hk _))
    · exact am_Rl_none
  · split
    · exact am_Rl_cond (am_Rl_ix (fun _ => hk _))
    · exact am_Rl_none
  · exact am_Rl_none
theorem am_Rl_ast {a : Value} {j : Int32} {ty : FieldType} {v : Value} {k k' : am_H → am_R} (hk : ∀ v, am_Rl (k v) (k' v)) : am_Rl (am_ast ks h a j ty v k) (am_ast ks h a j ty v k') := by
  unfold am_ast; split
  · split
    · exact am_Rl_cond (am_Rl_ix (fun _ => hk _))
    · exact am_Rl_none
  · exact am_Rl_none
theorem am_Rl_aald {o : Nat} {j : Int32} {k k' : Value → am_R} (hk : ∀ v, am_Rl (k v) (k' v)) : am_Rl (am_aald ks h o j k) (am_aald ks h o j k') := by
  unfold am_aald; split
  · exact am_Rl_ix (fun _ => hk _)
  · exact am_Rl_none
theorem am_Rl_aast {o v : Nat} {j : Int32} {k k' : am_H → am_R} (hk : ∀ v, am_Rl (k v) (k' v)) : am_Rl (am_aast G ks h o j v k) (am_aast G ks h o j v k') := by
  unfold am_aast; split
  · split
    · exact am_Rl_cond (am_Rl_ix (fun _ => hk _))
    · exact am_Rl_none
  · exact am_Rl_none
theorem am_Rl_len {a : Value} {k k' : Value → am_R} (hk : ∀ v, am_Rl (k v) (k' v)) : am_Rl (am_len G ks a k) (am_len G ks a k') := by
  unfold am_len; split
  · split
    · exact hk _
    · exact am_Rl_none
  · split
    · exact hk _
    · exact am_Rl_none
  · exact am_Rl_none
theorem am_Rl_text {j : Int32} {st : List Value} (hl : am_Lr ls l) : am_Rl (am_text G M i cs ls st ks h nc ns j) (am_text G M i cs l st ks h nc ns j) := am_Rl_cond (am_Rl_ix (fun _ => am_Rl_go hl))
theorem am_Rl_math {g : Int32 → Int32 → Int32} (hl : am_Lr ls l) : am_Rl (am_math M i cs ls st ks h nc ns g) (am_math M i cs l st ks h nc ns g) := by
  unfold am_math; split
  · exact am_Rl_cond (am_Rl_go hl)
  · exact am_Rl_none
theorem am_Rl_new (hl : am_Lr ls l) : am_Rl (am_new G M ex i cs ls st ks h nc ns) (am_new G M ex i cs l st ks h nc ns) := am_Rl_cond (am_Rl_go hl)
theorem am_Rl_newA {ty : FieldType} (hl : am_Lr ls l) : am_Rl (am_newA M ex ty i cs ls st ks h nc ns) (am_newA M ex ty i cs l st ks h nc ns) := by
  unfold am_newA; split
  · exact am_Rl_ite (am_Rl_cond (am_Rl_go hl))
  · exact am_Rl_none
theorem am_Rl_calls {a : Nat} {as rest : List Value} (hl : am_Lr ls l) : am_Rl (am_calls ex M M' a rc i cs ls as rest ks h nc ns) (am_calls ex M M' a rc i cs l as rest ks h nc ns) := by
  unfold am_calls
  refine am_Rl_cond ?_
  split
  · exact am_Rl_none
  · exact am_Rl_cond (am_Rl_go hl)
theorem am_Rl_callV (hl : am_Lr ls l) : am_Rl (am_callV ex G M rc i cs ls st ks h nc ns) (am_callV ex G M rc i cs l st ks h nc ns) := by
  unfold am_callV; split
  · exact am_Rl_none
  · split
    · split
      · exact am_Rl_cond (am_Rl_calls hl)
      · exact am_Rl_none
    · exact am_Rl_none
theorem am_Rl_callL (hl : am_Lr ls l) : am_Rl (am_callL ex G M i cs ls st ks h nc ns) (am_callL ex G M i cs l st ks h nc ns) := am_Rl_cond (am_Rl_calls hl)
theorem am_Rl_callS (hl : am_Lr ls l) : am_Rl (am_callS ex G M rc i cs ls st ks h nc ns) (am_callS ex G M rc i cs l st ks h nc ns) := by
  unfold am_callS; split
  · exact am_Rl_none
  · exact am_Rl_cond (am_Rl_calls hl)
/-- a local that is looked up -/
theorem am_Rl_get {k : Nat} {F F' : Option Value → am_R} (hl : am_Lr ls l) (hn : F' none = none) (h : ∀ v, am_Rl (F (some v)) (F' (some v))) : am_Rl (F (am_get ls k)) (F' (am_get l k)) := by
  cases hg : am_get l k with
  | none => rw [hn]; exact am_Rl_none
  | some v =>
    rw [am_Lr_get hl hg]
    exact h v
set_option maxHeartbeats 4000000 in
theorem am_one_ls (hl : am_Lr ls l) : am_Rl (am_one am_φ ex G rc M (i :: cs, ls, st, ks, h, nc, ns)) (am_one am_φ ex G rc M (i :: cs, l, st, ks, h, nc, ns)) := by
  obtain ⟨pc, len, ins, an, v0⟩ := i
  cases ins
  case aload k => exact am_Rl_get (F := fun o => match o with | some (.ref x) => am_go _ cs ls (.ref x :: st) ks h nc ns | some (.retAddr x) => am_go _ cs ls (.retAddr x :: st) ks h nc ns | _ => none) (F' := fun o => match o with | some (.ref x) => am_go _ cs l (.ref x :: st) ks h nc ns | some (.retAddr x) => am_go _ cs l (.retAddr x :: st) ks h nc ns | _ => none) hl rfl (fun v => by cases v <;> first | exact am_Rl_go hl | exact am_Rl_none)
  case aload_n k => exact am_Rl_get (F := fun o => match o with | some (.ref x) => am_go _ cs ls (.ref x :: st) ks h nc ns | some (.retAddr x) => am_go _ cs ls (.retAddr x :: st) ks h nc ns | _ => none) (F' := fun o => match o with | some (.ref x) => am_go _ cs l (.ref x :: st) ks h nc ns | some (.retAddr x) => am_go _ cs l (.retAddr x :: st) ks h nc ns | _ => none) hl rfl (fun v => by cases v <;> first | exact am_Rl_go hl | exact am_Rl_none)
  case iload k => exact am_Rl_get (F := fun o => match o with | some (.int x) => am_go _ cs ls (.int x :: st) ks h nc ns | _ => none) (F' := fun o => match o with | some (.int x) => am_go _ cs l (.int x :: st) ks h nc ns | _ => none) hl rfl (fun v => by cases v <;> first | exact am_Rl_go hl | exact am_Rl_none)
  case iload_n k => exact am_Rl_get (F := fun o => match o with | some (.int x) => am_go _ cs ls (.int x :: st) ks h nc ns | _ => none) (F' := fun o => match o with | some (.int x) => am_go _ cs l (.int x :: st) ks h nc ns | _ => none) hl rfl (fun v => by cases v <;> first | exact am_Rl_go hl | exact am_Rl_none)
  case lload k => exact am_Rl_get (F := fun o => match o with | some (.long x) => am_go _ cs ls (.long x :: st) ks h nc ns | _ => none) (F' := fun o => match o with | some (.long x) => am_go _ cs l (.long x :: st) ks h nc ns | _ => none) hl rfl (fun v => by cases v <;> first | exact am_Rl_go hl | exact am_Rl_none)
  case lload_n k => exact am_Rl_get (F := fun o => match o with | some (.long x) => am_go _ cs ls (.long x :: st) ks h nc ns | _ => none) (F' := fun o => match o with | some (.long x) => am_go _ cs l (.long x :: st) ks h nc ns | _ => none) hl rfl (fun v => by cases v <;> first | exact am_Rl_go hl | exact am_Rl_none)
  case iinc k n => exact am_Rl_get (F := fun o => match o with | some (.int x) => cond (Nat.blt k M.2.1.1) (am_pushI (.int (x + Int32.ofInt n)) (fun v => am_go _ cs (am_set ls k v) st ks h nc ns)) none | _ => none) (F' := fun o => match o with | some (.int x) => cond (Nat.blt k M.2.1.1) (am_pushI (.int (x + Int32.ofInt n)) (fun v => am_go _ cs (am_set l k v) st ks h nc ns)) none | _ => none) hl rfl (fun v => by cases v <;> first | exact am_Rl_cond (am_Rl_pI (fun v => am_Rl_go (am_Lr_set hl _ _))) | exact am_Rl_none)
  all_goals (simp only [am_one]) <;> (repeat' (first | with_reducible exact am_Rl_none | with_reducible exact am_Rl_go hl | with_reducible exact am_Rl_go (am_Lr_set hl _ _) | with_reducible exact am_Rl_go (am_Lr_set2 hl _ _) | with_reducible exact am_Rl_jp hl | with_reducible exact am_Rl_sw hl | with_reducible exact am_Rl_br hl | with_reducible exact am_Rl_callV hl | with_reducible exact am_Rl_callS hl | with_reducible exact am_Rl_callL hl | with_reducible exact am_Rl_math hl | with_reducible exact am_Rl_new hl | with_reducible exact am_Rl_newA hl | with_reducible exact am_Rl_text hl | with_reducible refine am_Rl_cond ?_ | with_reducible refine am_Rl_ite ?_ | with_reducible refine am_Rl_pI (fun v => ?_) | with_reducible refine am_Rl_pL (fun v => ?_) | with_reducible refine am_Rl_pR (fun v => ?_) | with_reducible refine am_Rl_ald (fun v => ?_) | with_reducible refine am_Rl_ast (fun v => ?_) | with_reducible refine am_Rl_aald (fun v => ?_) | with_reducible refine am_Rl_aast (fun v => ?_) | with_reducible refine am_Rl_len (fun v => ?_) | dsimp only [am_φ] | split))
end AML
theorem am_end_ls (M : am_M) (cs : List am_I) (ls l : am_L) (st : List Value) (ks : List am_k) (h : am_H) (nc ns : Nat) : am_end M (cs, ls, st, ks, h, nc, ns) = am_end M (cs, l, st, ks, h, nc, ns) := by
  cases cs <;> rfl
theorem am_run_ls {ex : Bool} {G : am_G} {M : am_M} : ∀ (n : Nat) {cs : List am_I} {ls l : am_L} {st : List Value} {ks : List am_k} {h : am_H} {nc ns : Nat} {r : am_O}, am_Lr ls l → am_run am_φ ex n G M (cs, l, st, ks, h, nc, ns) = some r → am_run am_φ ex n G M (cs, ls, st, ks, h, nc, ns) = some r := by
  intro n
  induction n with
  | zero => intro cs ls l st ks h nc ns r _ hh; cases hh
  | succ n ih =>
    intro cs ls l st ks h nc ns r hl hh
    rw [am_run_s] at hh ⊢
    rw [am_end_ls M cs ls l]
    split at hh
    · exact hh
    · split at hh
      · rename_i f' hone
        obtain ⟨cs1, l1, st1, ks1, h1, nc1, ns1⟩ := f'
        cases cs with
        | nil => cases hone
        | cons i cs =>
          obtain ⟨ls1, hl1, h2⟩ := am_one_ls hl _ _ _ _ _ _ _ hone
          rw [h2]
          exact ih hl1 hh
      · cases hh
theorem am_Ek_ls {ex : Bool} {G : am_G} {M : am_M} {k : Nat} {ls ls' : am_L} {st : List Value} {ks : List am_k} {h : am_H} {nc ns : Nat} {Q : Option Value → List am_k → am_H → Prop} (hl : am_Lr ls ls') (hh : am_Ek ex G M k ls' st ks h nc ns Q) : am_Ek ex G M k ls st ks h nc ns Q := by
  obtain ⟨n, r, hr, hQ⟩ := hh
  exact ⟨n, r, am_run_ls n hl hr, hQ⟩
/-- facts of a heap -/
def am_Ts (h : am_H) : List (Nat × Nat × Value) → Prop
  | [] => True
  | q :: l => h q.1 q.2.1 = q.2.2 ∧ am_Ts h l
def am_inM (md : List (Nat × Nat)) (o k : Nat) : Bool := md.any (fun q => Nat.beq q.1 o && Nat.beq q.2 k)
/-- nothing but the cells of md has changed -/
def am_Fr (md : List (Nat × Nat)) (h h' : am_H) : Prop := ∀ o k, am_inM md o k = false → h' o k = h o k
theorem am_Fr_refl {md : List (Nat × Nat)} {h : am_H} : am_Fr md h h := fun _ _ _ => rfl
theorem am_Fr_trans {md : List (Nat × Nat)} {h h' h'' : am_H} (a : am_Fr md h h') (b : am_Fr md h' h'') : am_Fr md h h'' := fun o k hk => (b o k hk).trans (a o k hk)
theorem am_Fr_up {md : List (Nat × Nat)} {h h' : am_H} {o k : Nat} {v : Value} (hm : am_inM md o k = true) (a : am_Fr md h h') : am_Fr md h (am_up h' o k v) := by
  intro o' k' hk
  by_cases ho : o' = o
  · by_cases hkk : k' = k
    · subst ho; subst hkk; rw [hm] at hk; cases hk
    · subst ho; rw [am_up_same _ _ _ _ _ hkk]; exact a _ _ hk
  · rw [am_up_other _ _ _ _ _ ho]; exact a _ _ hk
theorem am_Fr_sub {md md' : List (Nat × Nat)} {h h' : am_H} (hs : md.all (fun q => am_inM md' q.1 q.2) = true) (a : am_Fr md h h') : am_Fr md' h h' := by
  intro o k hk
  refine a o k ?_
  cases hm : am_inM md o k with
  | false => rfl
  | true =>
    obtain ⟨q, hq, hb⟩ := List.any_eq_true.mp hm
    rw [Bool.and_eq_true] at hb
    have := List.all_eq_true.mp hs q hq
    rw [Nat.eq_of_beq_eq_true hb.1, Nat.eq_of_beq_eq_true hb.2, hk] at this
    cases this
theorem am_Ts_fr {md : List (Nat × Nat)} {h h' : am_H} (a : am_Fr md h h') : ∀ {l : List (Nat × Nat × Value)}, l.all (fun q => !am_inM md q.1 q.2.1) = true → am_Ts h l → am_Ts h' l
  | [], _, _ => trivial
  | q :: l, hd, ht => by
    rw [List.all_cons, Bool.and_eq_true] at hd
    refine ⟨(a _ _ (by simpa using hd.1)).trans ht.1, am_Ts_fr a hd.2 ht.2⟩
