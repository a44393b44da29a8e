/-! ===== WHAT A RUN THAT ENDS CAME THROUGH: an instruction each, forwards (wip/r/gen99qc.py) ===== -/
def rg_v (h : am_H) (o k : Nat) : Int32 := match h o k with
  | .int x => x
  | _ => 0
def rg_l (h : am_H) (o k : Nat) : Int64 := match h o k with
  | .long x => x
  | _ => 0
def rg_r (h : am_H) (o k : Nat) : Nat := match h o k with
  | .ref x => x
  | _ => 0
theorem rg_int {h : am_H} {o k : Nat} {kd : am_k} (hG : rg_Gd h) (hk : am_ks0[o]? = some kd) (hz : k < ab_sz kd) (hc : Nat.blt (rg_c o k) 2 = true) : h o k = .int (rg_v h o k) := by
  have hg := hG o k kd hk hz
  unfold rg_v
  match hq : rg_c o k, hc with
  | 0, _ =>
    rw [hq] at hg
    obtain ⟨x, e⟩ := hg
    rw [e]
  | 1, _ =>
    rw [hq] at hg
    rcases hg with e | e
    · rw [e]
    · rw [e]
theorem rg_boo {h : am_H} {o k : Nat} {kd : am_k} (hG : rg_Gd h) (hk : am_ks0[o]? = some kd) (hz : k < ab_sz kd) (hc : rg_c o k = 1) : rg_v h o k = 0 ∨ rg_v h o k = 1 := by
  have hg := hG o k kd hk hz
  unfold rg_v
  rw [hc] at hg
  rcases hg with e | e
  · rw [e]; exact Or.inl rfl
  · rw [e]; exact Or.inr rfl
theorem rg_lon {h : am_H} {o k : Nat} {kd : am_k} (hG : rg_Gd h) (hk : am_ks0[o]? = some kd) (hz : k < ab_sz kd) (hc : rg_c o k = 2) : h o k = .long (rg_l h o k) := by
  have hg := hG o k kd hk hz
  unfold rg_l
  rw [hc] at hg
  obtain ⟨x, e⟩ := hg
  rw [e]
theorem rg_ref {h : am_H} {o k n : Nat} {kd : am_k} (hG : rg_Gd h) (hk : am_ks0[o]? = some kd) (hz : k < ab_sz kd) (hc : rg_c o k = n + 4) : h o k = .ref n := by
  have hg := hG o k kd hk hz
  rw [hc] at hg
  exact hg
theorem rg_any {h : am_H} {o k : Nat} {kd : am_k} (hG : rg_Gd h) (hk : am_ks0[o]? = some kd) (hz : k < ab_sz kd) (hc : rg_c o k = 3) : h o k = .ref (rg_r h o k) := by
  have hg := hG o k kd hk hz
  unfold rg_r
  rw [hc] at hg
  obtain ⟨x, e⟩ := hg
  rw [e]
theorem rg_v_e {h : am_H} {o k : Nat} {x : Int32} (e : h o k = .int x) : rg_v h o k = x := by unfold rg_v; rw [e]
theorem rg_r_e {h : am_H} {o k : Nat} {x : Nat} (e : h o k = .ref x) : rg_r h o k = x := by unfold rg_r; rw [e]
/-- at most n steps lead from the k-th instruction to this end -/
def rn (n : Nat) (M : am_M) (k : Nat) (ls : am_L) (st : List Value) (h : am_H) (r : Option Value) (h' : am_H) : Prop :=
  rn_K M.2.2.2 ∧ rg_Gd h ∧ ∃ nc ns m, m ≤ n ∧ am_run am_φ false m am_G0 M (M.2.2.2.drop k, ls, st, am_ks0, h, nc, ns) = some (r, am_ks0, h')
section RNS
variable {n : Nat} {M : am_M} {k pc len : Nat} {an : Nat × Nat × Nat} {z : Int} {ls ls' : am_L} {st st' : List Value} {h h1 h' : am_H} {r : Option Value} {i : am_I}
theorem rn_G (hr : rn n M k ls st h r h') : rg_Gd h := hr.2.1
theorem rn_G' (hr : rn n M k ls st h r h') : rg_Gd h' := by
  obtain ⟨hM, hG, nc, ns, m, hm, hrun⟩ := hr
  exact (rn_run m M _ ls st h nc ns _ hM (fun j hj => hM j (List.mem_of_mem_drop hj)) hG hrun).2
theorem rn_0 (hr : rn 0 M k ls st h r h') : False := by
  obtain ⟨hM, hG, nc, ns, m, hm, hrun⟩ := hr
  have : m = 0 := Nat.le_zero.mp hm
  subst this
  cases hrun
theorem rn_up {n2 : Nat} (hn : n ≤ n2) (hr : rn n M k ls st h r h') : rn n2 M k ls st h r h' := by
  obtain ⟨hM, hG, nc, ns, m, hm, hrun⟩ := hr
  exact ⟨hM, hG, nc, ns, m, Nat.le_trans hm hn, hrun⟩
theorem rn_s (hn : am_cur M k i) (h1 : ∀ cs nc ns, am_end M (i :: cs, ls, st, am_ks0, h, nc, ns) = none) (hr : rn n M k ls st h r h') :
    ∃ nc ns m f', m + 1 ≤ n ∧ am_one am_φ false am_G0 (am_rc false m am_G0) M (i :: M.2.2.2.drop (k + 1), ls, st, am_ks0, h, nc, ns) = some (.inl f') ∧ am_run am_φ false m am_G0 M f' = some (r, am_ks0, h') := by
  obtain ⟨hM, hG, nc, ns, m, hm, hrun⟩ := hr
  cases m with
  | zero => cases hrun
  | succ m =>
    rw [hn, am_run_s, h1] at hrun
    split at hrun
    · rename_i hq
      cases hq
    · split at hrun
      · rename_i f' hone
        exact ⟨nc, ns, m, f', hm, hone, hrun⟩
      · cases hrun
theorem rn_go_inv {cs : List am_I} {nc ns : Nat} {f' : am_F ⊕ am_O} (hf : am_go i cs ls st am_ks0 h nc ns = some f') : f' = .inl (cs, ls, st, am_ks0, h, nc, ns) := by
  unfold am_go am_nx at hf
  split at hf
  · cases hf
  · rename_i j r
    cases hb : Nat.beq j.1 (i.1 + i.2.1) with
    | false => rw [hb] at hf; cases hf
    | true => rw [hb] at hf; cases hf; rfl
theorem rn_jp_inv {a : Nat} {t : Int} {nc ns : Nat} {f' : am_F ⊕ am_O} (hf : am_jp M a t ls st am_ks0 h nc ns = some f') : f' = .inl (M.2.2.2.drop a, ls, st, am_ks0, h, nc, ns) := by
  unfold am_jp at hf
  split at hf
  · cases hf
  · rename_i j r hd
    split at hf
    · cases hf
      rw [hd]
    · cases hf
theorem rn_cond {b : Bool} {q : am_R} {x : am_F ⊕ am_O} (hf : cond b q none = some x) : b = true ∧ q = some x := by
  cases b
  · cases hf
  · exact ⟨rfl, hf⟩
theorem rn_ix {j : Int32} {N : Nat} {q : Nat → am_R} {x : am_F ⊕ am_O} (hf : am_ix j N q = some x) : ((j.toNatClampNeg : Int) = j.toInt ∧ j.toNatClampNeg < N) ∧ q j.toNatClampNeg = some x := by
  unfold am_ix at hf
  split at hf
  · cases hf
  · rename_i hp
    refine ⟨⟨?_, by omega⟩, hf⟩
    have h0 : ¬ j < 0 := fun q => hp (Or.inl q)
    rw [Int32.lt_iff_toInt_lt] at h0
    have z0 : (0 : Int32).toInt = 0 := by decide
    have e : j.toNatClampNeg = j.toInt.toNat := rfl
    omega
theorem rn_gx {Pp : Prop} (hn : am_cur M k i) (e1 : ∀ cs nc ns, am_end M (i :: cs, ls, st, am_ks0, h, nc, ns) = none) (e2 : ∀ rc cs nc ns x, am_one am_φ false am_G0 rc M (i :: cs, ls, st, am_ks0, h, nc, ns) = some x → Pp ∧ am_go i cs ls' st' am_ks0 h1 nc ns = some x) (hg : Pp → rg_Gd h1) (hr : rn n M k ls st h r h') : Pp ∧ rn n M (k + 1) ls' st' h1 r h' := by
  obtain ⟨nc, ns, m, f', hm, hone, hrun⟩ := rn_s hn e1 hr
  obtain ⟨hp, hgo⟩ := e2 _ _ _ _ _ hone
  have := rn_go_inv hgo
  cases this
  exact ⟨hp, hr.1, hg hp, nc, ns, m, by omega, hrun⟩
theorem rn_go (hn : am_cur M k i) (e1 : ∀ cs nc ns, am_end M (i :: cs, ls, st, am_ks0, h, nc, ns) = none) (e2 : ∀ rc cs nc ns, am_one am_φ false am_G0 rc M (i :: cs, ls, st, am_ks0, h, nc, ns) = am_go i cs ls' st' am_ks0 h nc ns) (hr : rn n M k ls st h r h') : rn n M (k + 1) ls' st' h r h' :=
  (rn_gx (Pp := True) hn e1 (fun rc cs nc ns x hx => ⟨trivial, by rw [← e2 rc cs nc ns]; exact hx⟩) (fun _ => hr.2.1) hr).2
/-- a local is written: the others stay -/
def rn_set (ls ls' : am_L) (j : Nat) : Prop := ∀ (a : Nat) (w : Value), ¬ a = j → w.category = 1 → am_get ls a = some w → am_get ls' a = some w
def rn_setL (ls ls' : am_L) (j : Nat) : Prop := ∀ (a : Nat) (w : Value), ¬ a = j → ¬ a + 1 = j → am_get ls a = some w → am_get ls' a = some w
def rn_set2 (ls ls' : am_L) (j : Nat) : Prop := ∀ (a : Nat) (w : Value), ¬ a = j → ¬ a = j + 1 → w.category = 1 → am_get ls a = some w → am_get ls' a = some w
def rn_set2L (ls ls' : am_L) (j : Nat) : Prop := ∀ (a : Nat) (w : Value), ¬ a = j → ¬ a = j + 1 → ¬ a + 1 = j → am_get ls a = some w → am_get ls' a = some w
theorem rn_iload {j : Nat} {v : Int32} (hn : am_cur M k (pc, len, .iload j, an, z)) (hg : am_get ls j = some (.int v)) (hr : rn n M k ls st h r h') : rn n M (k + 1) ls (.int v :: st) h r h' := rn_go hn (fun _ _ _ => rfl) (fun _ _ _ _ => by simp only [am_one, hg]) hr
theorem rn_iload_n {j : Fin 4} {v : Int32} (hn : am_cur M k (pc, len, .iload_n j, an, z)) (hg : am_get ls j.val = some (.int v)) (hr : rn n M k ls st h r h') : rn n M (k + 1) ls (.int v :: st) h r h' := rn_go hn (fun _ _ _ => rfl) (fun _ _ _ _ => by simp only [am_one, hg]) hr
theorem rn_lload {j : Nat} {v : Int64} (hn : am_cur M k (pc, len, .lload j, an, z)) (hg : am_get ls j = some (.long v)) (hr : rn n M k ls st h r h') : rn n M (k + 1) ls (.long v :: st) h r h' := rn_go hn (fun _ _ _ => rfl) (fun _ _ _ _ => by simp only [am_one, hg]) hr
theorem rn_lload_n {j : Fin 4} {v : Int64} (hn : am_cur M k (pc, len, .lload_n j, an, z)) (hg : am_get ls j.val = some (.long v)) (hr : rn n M k ls st h r h') : rn n M (k + 1) ls (.long v :: st) h r h' := rn_go hn (fun _ _ _ => rfl) (fun _ _ _ _ => by simp only [am_one, hg]) hr
theorem rn_aload {j : Nat} {v : Nat} (hn : am_cur M k (pc, len, .aload j, an, z)) (hg : am_get ls j = some (.ref v)) (hr : rn n M k ls st h r h') : rn n M (k + 1) ls (.ref v :: st) h r h' := rn_go hn (fun _ _ _ => rfl) (fun _ _ _ _ => by simp only [am_one, hg]) hr
theorem rn_aload_n {j : Fin 4} {v : Nat} (hn : am_cur M k (pc, len, .aload_n j, an, z)) (hg : am_get ls j.val = some (.ref v)) (hr : rn n M k ls st h r h') : rn n M (k + 1) ls (.ref v :: st) h r h' := rn_go hn (fun _ _ _ => rfl) (fun _ _ _ _ => by simp only [am_one, hg]) hr
theorem rn_istore {j : Nat} {v : Int32} (hn : am_cur M k (pc, len, .istore j, an, z)) (hr : rn n M k ls (.int v :: st) h r h') : ∃ ls', rn_set ls ls' j ∧ rn_setL ls ls' j ∧ am_get ls' j = some (.int v) ∧ rn n M (k + 1) ls' st h r h' := by
  refine ⟨am_set ls j (.int v), fun a w ha hw hg => ab_set_in ha hw hg, fun a w ha hb hg => (ab_set_ne ha hb).trans hg, ?_, (rn_gx (Pp := True) hn (fun _ _ _ => rfl) (fun rc cs nc ns x hx => ?_) (fun _ => hr.2.1) hr).2⟩
  · exact ab_setC_self (two := false)
  · simp only [am_one, am_φ, am_pushI] at hx
    exact ⟨trivial, (rn_cond hx).2⟩
theorem rn_istore_n {j : Fin 4} {v : Int32} (hn : am_cur M k (pc, len, .istore_n j, an, z)) (hr : rn n M k ls (.int v :: st) h r h') : ∃ ls', rn_set ls ls' j.val ∧ rn_setL ls ls' j.val ∧ am_get ls' j.val = some (.int v) ∧ rn n M (k + 1) ls' st h r h' := by
  refine ⟨am_set ls j.val (.int v), fun a w ha hw hg => ab_set_in ha hw hg, fun a w ha hb hg => (ab_set_ne ha hb).trans hg, ?_, (rn_gx (Pp := True) hn (fun _ _ _ => rfl) (fun rc cs nc ns x hx => ?_) (fun _ => hr.2.1) hr).2⟩
  · exact ab_setC_self (two := false)
  · simp only [am_one, am_φ, am_pushI] at hx
    exact ⟨trivial, (rn_cond hx).2⟩
theorem rn_astore {j : Nat} {v : Nat} (hn : am_cur M k (pc, len, .astore j, an, z)) (hr : rn n M k ls (.ref v :: st) h r h') : ∃ ls', rn_set ls ls' j ∧ rn_setL ls ls' j ∧ am_get ls' j = some (.ref v) ∧ rn n M (k + 1) ls' st h r h' := by
  refine ⟨am_set ls j (.ref v), fun a w ha hw hg => ab_set_in ha hw hg, fun a w ha hb hg => (ab_set_ne ha hb).trans hg, ?_, (rn_gx (Pp := True) hn (fun _ _ _ => rfl) (fun rc cs nc ns x hx => ?_) (fun _ => hr.2.1) hr).2⟩
  · exact ab_setC_self (two := false)
  · simp only [am_one, am_φ, am_pushI] at hx
    exact ⟨trivial, (rn_cond hx).2⟩
theorem rn_astore_n {j : Fin 4} {v : Nat} (hn : am_cur M k (pc, len, .astore_n j, an, z)) (hr : rn n M k ls (.ref v :: st) h r h') : ∃ ls', rn_set ls ls' j.val ∧ rn_setL ls ls' j.val ∧ am_get ls' j.val = some (.ref v) ∧ rn n M (k + 1) ls' st h r h' := by
  refine ⟨am_set ls j.val (.ref v), fun a w ha hw hg => ab_set_in ha hw hg, fun a w ha hb hg => (ab_set_ne ha hb).trans hg, ?_, (rn_gx (Pp := True) hn (fun _ _ _ => rfl) (fun rc cs nc ns x hx => ?_) (fun _ => hr.2.1) hr).2⟩
  · exact ab_setC_self (two := false)
  · simp only [am_one, am_φ, am_pushI] at hx
    exact ⟨trivial, (rn_cond hx).2⟩
theorem rn_lstore {j : Nat} {v : Int64} (hn : am_cur M k (pc, len, .lstore j, an, z)) (hr : rn n M k ls (.long v :: st) h r h') : ∃ ls', rn_set2 ls ls' j ∧ rn_set2L ls ls' j ∧ am_get ls' j = some (.long v) ∧ rn n M (k + 1) ls' st h r h' := by
  refine ⟨am_set2 ls j (.long v), fun a w ha hb hw hg => ab_set2_in ha hb hw hg, fun a w ha hb hc hg => (ab_set2_ne ha hc hb).trans hg, ?_, (rn_gx (Pp := True) hn (fun _ _ _ => rfl) (fun rc cs nc ns x hx => ?_) (fun _ => hr.2.1) hr).2⟩
  · exact ab_setC_self (two := true)
  · simp only [am_one, am_φ, am_pushL] at hx
    exact ⟨trivial, (rn_cond hx).2⟩
theorem rn_lstore_n {j : Fin 4} {v : Int64} (hn : am_cur M k (pc, len, .lstore_n j, an, z)) (hr : rn n M k ls (.long v :: st) h r h') : ∃ ls', rn_set2 ls ls' j.val ∧ rn_set2L ls ls' j.val ∧ am_get ls' j.val = some (.long v) ∧ rn n M (k + 1) ls' st h r h' := by
  refine ⟨am_set2 ls j.val (.long v), fun a w ha hb hw hg => ab_set2_in ha hb hw hg, fun a w ha hb hc hg => (ab_set2_ne ha hc hb).trans hg, ?_, (rn_gx (Pp := True) hn (fun _ _ _ => rfl) (fun rc cs nc ns x hx => ?_) (fun _ => hr.2.1) hr).2⟩
  · exact ab_setC_self (two := true)
  · simp only [am_one, am_φ, am_pushL] at hx
    exact ⟨trivial, (rn_cond hx).2⟩
theorem rn_iinc {j : Nat} {c : Int} {v w : Int32} (hn : am_cur M k (pc, len, .iinc j c, an, z)) (hg : am_get ls j = some (.int v)) (hw : v + Int32.ofInt c = w) (hr : rn n M k ls st h r h') : ∃ ls', rn_set ls ls' j ∧ rn_setL ls ls' j ∧ am_get ls' j = some (.int w) ∧ rn n M (k + 1) ls' st h r h' := by
  refine ⟨am_set ls j (.int w), fun a w ha hw hg => ab_set_in ha hw hg, fun a w ha hb hg => (ab_set_ne ha hb).trans hg, ?_, (rn_gx (Pp := True) hn (fun _ _ _ => rfl) (fun rc cs nc ns x hx => ?_) (fun _ => hr.2.1) hr).2⟩
  · exact ab_setC_self (two := false)
  · simp only [am_one, hg, am_φ, am_pushI, hw] at hx
    exact ⟨trivial, (rn_cond hx).2⟩
theorem rn_iconst {c : Int} {w : Int32} (hn : am_cur M k (pc, len, .iconst c, an, z)) (hw : Int32.ofInt c = w) (hr : rn n M k ls st h r h') : rn n M (k + 1) ls (.int w :: st) h r h' := rn_go hn (fun _ _ _ => rfl) (fun _ _ _ _ => by simp only [am_one, hw]) hr
theorem rn_bipush {c : Int} {w : Int32} (hn : am_cur M k (pc, len, .bipush c, an, z)) (hw : (Int8.ofInt c).toInt32 = w) (hr : rn n M k ls st h r h') : rn n M (k + 1) ls (.int w :: st) h r h' := rn_go hn (fun _ _ _ => rfl) (fun _ _ _ _ => by simp only [am_one, hw]) hr
theorem rn_sipush {c : Int} {w : Int32} (hn : am_cur M k (pc, len, .sipush c, an, z)) (hw : (Int16.ofInt c).toInt32 = w) (hr : rn n M k ls st h r h') : rn n M (k + 1) ls (.int w :: st) h r h' := rn_go hn (fun _ _ _ => rfl) (fun _ _ _ _ => by simp only [am_one, hw]) hr
theorem rn_lconst {c : Fin 2} {w : Int64} (hn : am_cur M k (pc, len, .lconst c, an, z)) (hw : Int64.ofNat (c : Nat) = w) (hr : rn n M k ls st h r h') : rn n M (k + 1) ls (.long w :: st) h r h' := rn_go hn (fun _ _ _ => rfl) (fun _ _ _ _ => by simp only [am_one, hw]) hr
theorem rn_ldc {j a c : Nat} {w : Int32} (hn : am_cur M k (pc, len, .ldc j, (a, 0, c), z)) (hw : Int32.ofInt z = w) (hr : rn n M k ls st h r h') : rn n M (k + 1) ls (.int w :: st) h r h' := rn_go hn (fun _ _ _ => rfl) (fun _ _ _ _ => by simp only [am_one, hw]) hr
theorem rn_ldc2 {j : Nat} {w : Int64} (hn : am_cur M k (pc, len, .ldc2_w j, an, z)) (hw : Int64.ofInt z = w) (hr : rn n M k ls st h r h') : rn n M (k + 1) ls (.long w :: st) h r h' := rn_go hn (fun _ _ _ => rfl) (fun _ _ _ _ => by simp only [am_one, hw]) hr
theorem rn_dup {v : Value} (hn : am_cur M k (pc, len, .dup, an, z)) (hr : rn n M k ls (v :: st) h r h') : rn n M (k + 1) ls (v :: v :: st) h r h' := (rn_gx (Pp := True) hn (fun _ _ _ => rfl) (fun rc cs nc ns x hx => ⟨trivial, by
  simp only [am_one] at hx
  exact (rn_cond hx).2⟩) (fun _ => hr.2.1) hr).2
theorem rn_dup2 {v w : Value} (hn : am_cur M k (pc, len, .dup2, an, z)) (hr : rn n M k ls (v :: w :: st) h r h') : rn n M (k + 1) ls (v :: w :: v :: w :: st) h r h' := (rn_gx (Pp := True) hn (fun _ _ _ => rfl) (fun rc cs nc ns x hx => ⟨trivial, by
  simp only [am_one] at hx
  exact (rn_cond hx).2⟩) (fun _ => hr.2.1) hr).2
theorem rn_pop {v : Value} (hn : am_cur M k (pc, len, .pop, an, z)) (hr : rn n M k ls (v :: st) h r h') : rn n M (k + 1) ls st h r h' := (rn_gx (Pp := True) hn (fun _ _ _ => rfl) (fun rc cs nc ns x hx => ⟨trivial, by
  simp only [am_one] at hx
  exact (rn_cond hx).2⟩) (fun _ => hr.2.1) hr).2
theorem rn_pop2 {v : Value} (hn : am_cur M k (pc, len, .pop2, an, z)) (hr : rn n M k ls (v :: st) h r h') : rn n M (k + 1) ls st h r h' := (rn_gx (Pp := True) hn (fun _ _ _ => rfl) (fun rc cs nc ns x hx => ⟨trivial, by
  simp only [am_one] at hx
  exact (rn_cond hx).2⟩) (fun _ => hr.2.1) hr).2
theorem rn_iadd {x y : Int32} {w : Int32} (hn : am_cur M k (pc, len, .iadd, an, z)) (hw : x + y = w) (hr : rn n M k ls (.int y :: .int x :: st) h r h') : rn n M (k + 1) ls (.int w :: st) h r h' := rn_go hn (fun _ _ _ => rfl) (fun _ _ _ _ => by simp only [am_one, hw]) hr
theorem rn_isub {x y : Int32} {w : Int32} (hn : am_cur M k (pc, len, .isub, an, z)) (hw : x - y = w) (hr : rn n M k ls (.int y :: .int x :: st) h r h') : rn n M (k + 1) ls (.int w :: st) h r h' := rn_go hn (fun _ _ _ => rfl) (fun _ _ _ _ => by simp only [am_one, hw]) hr
theorem rn_imul {x y : Int32} {w : Int32} (hn : am_cur M k (pc, len, .imul, an, z)) (hw : x * y = w) (hr : rn n M k ls (.int y :: .int x :: st) h r h') : rn n M (k + 1) ls (.int w :: st) h r h' := rn_go hn (fun _ _ _ => rfl) (fun _ _ _ _ => by simp only [am_one, hw]) hr
theorem rn_iand {x y : Int32} {w : Int32} (hn : am_cur M k (pc, len, .iand, an, z)) (hw : x &&& y = w) (hr : rn n M k ls (.int y :: .int x :: st) h r h') : rn n M (k + 1) ls (.int w :: st) h r h' := rn_go hn (fun _ _ _ => rfl) (fun _ _ _ _ => by simp only [am_one, hw]) hr
theorem rn_ior {x y : Int32} {w : Int32} (hn : am_cur M k (pc, len, .ior, an, z)) (hw : x ||| y = w) (hr : rn n M k ls (.int y :: .int x :: st) h r h') : rn n M (k + 1) ls (.int w :: st) h r h' := rn_go hn (fun _ _ _ => rfl) (fun _ _ _ _ => by simp only [am_one, hw]) hr
theorem rn_ishl {x y : Int32} {w : Int32} (hn : am_cur M k (pc, len, .ishl, an, z)) (hw : x <<< (y &&& 31) = w) (hr : rn n M k ls (.int y :: .int x :: st) h r h') : rn n M (k + 1) ls (.int w :: st) h r h' := rn_go hn (fun _ _ _ => rfl) (fun _ _ _ _ => by simp only [am_one, hw]) hr
theorem rn_ishr {x y : Int32} {w : Int32} (hn : am_cur M k (pc, len, .ishr, an, z)) (hw : x >>> (y &&& 31) = w) (hr : rn n M k ls (.int y :: .int x :: st) h r h') : rn n M (k + 1) ls (.int w :: st) h r h' := rn_go hn (fun _ _ _ => rfl) (fun _ _ _ _ => by simp only [am_one, hw]) hr
theorem rn_iushr {x y : Int32} {w : Int32} (hn : am_cur M k (pc, len, .iushr, an, z)) (hw : (x.toUInt32 >>> (y.toUInt32 &&& Int32.toUInt32 31)).toInt32 = w) (hr : rn n M k ls (.int y :: .int x :: st) h r h') : rn n M (k + 1) ls (.int w :: st) h r h' := rn_go hn (fun _ _ _ => rfl) (fun _ _ _ _ => by simp only [am_one, hw]) hr
theorem rn_ladd {x y : Int64} {w : Int64} (hn : am_cur M k (pc, len, .ladd, an, z)) (hw : x + y = w) (hr : rn n M k ls (.long y :: .long x :: st) h r h') : rn n M (k + 1) ls (.long w :: st) h r h' := rn_go hn (fun _ _ _ => rfl) (fun _ _ _ _ => by simp only [am_one, hw]) hr
theorem rn_lsub {x y : Int64} {w : Int64} (hn : am_cur M k (pc, len, .lsub, an, z)) (hw : x - y = w) (hr : rn n M k ls (.long y :: .long x :: st) h r h') : rn n M (k + 1) ls (.long w :: st) h r h' := rn_go hn (fun _ _ _ => rfl) (fun _ _ _ _ => by simp only [am_one, hw]) hr
theorem rn_lmul {x y : Int64} {w : Int64} (hn : am_cur M k (pc, len, .lmul, an, z)) (hw : x * y = w) (hr : rn n M k ls (.long y :: .long x :: st) h r h') : rn n M (k + 1) ls (.long w :: st) h r h' := rn_go hn (fun _ _ _ => rfl) (fun _ _ _ _ => by simp only [am_one, hw]) hr
theorem rn_land {x y : Int64} {w : Int64} (hn : am_cur M k (pc, len, .land, an, z)) (hw : x &&& y = w) (hr : rn n M k ls (.long y :: .long x :: st) h r h') : rn n M (k + 1) ls (.long w :: st) h r h' := rn_go hn (fun _ _ _ => rfl) (fun _ _ _ _ => by simp only [am_one, hw]) hr
theorem rn_lneg {x : Int64} {w : Int64} (hn : am_cur M k (pc, len, .lneg, an, z)) (hw : -x = w) (hr : rn n M k ls (.long x :: st) h r h') : rn n M (k + 1) ls (.long w :: st) h r h' := rn_go hn (fun _ _ _ => rfl) (fun _ _ _ _ => by simp only [am_one, hw]) hr
theorem rn_i2l {x : Int32} {w : Int64} (hn : am_cur M k (pc, len, .i2l, an, z)) (hw : x.toInt64 = w) (hr : rn n M k ls (.int x :: st) h r h') : rn n M (k + 1) ls (.long w :: st) h r h' := rn_go hn (fun _ _ _ => rfl) (fun _ _ _ _ => by simp only [am_one, hw]) hr
theorem rn_l2i {x : Int64} {w : Int32} (hn : am_cur M k (pc, len, .l2i, an, z)) (hw : x.toInt32 = w) (hr : rn n M k ls (.long x :: st) h r h') : rn n M (k + 1) ls (.int w :: st) h r h' := rn_go hn (fun _ _ _ => rfl) (fun _ _ _ _ => by simp only [am_one, hw]) hr
theorem rn_lcmp {x y : Int64} {w : Int32} (hn : am_cur M k (pc, len, .lcmp, an, z)) (hw : lg_cmp x y = w) (hr : rn n M k ls (.long y :: .long x :: st) h r h') : rn n M (k + 1) ls (.int w :: st) h r h' := rn_go hn (fun _ _ _ => rfl) (fun _ _ _ _ => by simp only [am_one, hw]) hr
theorem rn_idiv {x y w : Int32} (hn : am_cur M k (pc, len, .idiv, an, z)) (hw : x / y = w) (hr : rn n M k ls (.int y :: .int x :: st) h r h') : ¬ y = 0 ∧ rn n M (k + 1) ls (.int w :: st) h r h' := rn_gx hn (fun _ _ _ => rfl) (fun rc cs nc ns q hx => by
  simp only [am_one, hw] at hx
  split at hx
  · cases hx
  · rename_i hy
    exact ⟨hy, hx⟩) (fun _ => hr.2.1) hr
theorem rn_irem {x y w : Int32} (hn : am_cur M k (pc, len, .irem, an, z)) (hw : x - x / y * y = w) (hr : rn n M k ls (.int y :: .int x :: st) h r h') : ¬ y = 0 ∧ rn n M (k + 1) ls (.int w :: st) h r h' := rn_gx hn (fun _ _ _ => rfl) (fun rc cs nc ns q hx => by
  simp only [am_one, hw] at hx
  split at hx
  · cases hx
  · rename_i hy
    exact ⟨hy, hx⟩) (fun _ => hr.2.1) hr
theorem rn_ldiv {x y w : Int64} (hn : am_cur M k (pc, len, .ldiv, an, z)) (hw : x / y = w) (hr : rn n M k ls (.long y :: .long x :: st) h r h') : ¬ y = 0 ∧ rn n M (k + 1) ls (.long w :: st) h r h' := rn_gx hn (fun _ _ _ => rfl) (fun rc cs nc ns q hx => by
  simp only [am_one, hw] at hx
  split at hx
  · cases hx
  · rename_i hy
    exact ⟨hy, hx⟩) (fun _ => hr.2.1) hr
theorem rn_lrem {x y w : Int64} (hn : am_cur M k (pc, len, .lrem, an, z)) (hw : x - x / y * y = w) (hr : rn n M k ls (.long y :: .long x :: st) h r h') : ¬ y = 0 ∧ rn n M (k + 1) ls (.long w :: st) h r h' := rn_gx hn (fun _ _ _ => rfl) (fun rc cs nc ns q hx => by
  simp only [am_one, hw] at hx
  split at hx
  · cases hx
  · rename_i hy
    exact ⟨hy, hx⟩) (fun _ => hr.2.1) hr
theorem rn_goto {off : Int} {a b c : Nat} (hn : am_cur M k (pc, len, .goto off, (a, b, c), z)) (hr : rn n M k ls st h r h') : rn n M a ls st h r h' := by
  obtain ⟨nc, ns, m, f', hm, hone, hrun⟩ := rn_s hn (fun _ _ _ => rfl) hr
  simp only [am_one] at hone
  have := rn_jp_inv hone
  cases this
  exact ⟨hr.1, hr.2.1, nc, ns, m, by omega, hrun⟩
theorem rn_gotoL {off : Int} {a b c : Nat} (hn : am_cur M k (pc, len, .goto off, (a, b, c), z)) (hr : rn (n + 1) M k ls st h r h') : rn n M a ls st h r h' := by
  obtain ⟨nc, ns, m, f', hm, hone, hrun⟩ := rn_s hn (fun _ _ _ => rfl) hr
  simp only [am_one] at hone
  have := rn_jp_inv hone
  cases this
  exact ⟨hr.1, hr.2.1, nc, ns, m, by omega, hrun⟩
def rn_c (cc : ClassFile.Cond) (x y : Int32) : Prop := match cc with
  | .eq => x = y ∧ x.toInt = y.toInt
  | .ne => ¬ x = y ∧ ¬ x.toInt = y.toInt
  | .lt => x.toInt < y.toInt
  | .ge => y.toInt ≤ x.toInt
  | .gt => y.toInt < x.toInt
  | .le => x.toInt ≤ y.toInt
def rn_nc (cc : ClassFile.Cond) (x y : Int32) : Prop := match cc with
  | .eq => ¬ x = y ∧ ¬ x.toInt = y.toInt
  | .ne => x = y ∧ x.toInt = y.toInt
  | .lt => y.toInt ≤ x.toInt
  | .ge => x.toInt < y.toInt
  | .gt => x.toInt ≤ y.toInt
  | .le => y.toInt < x.toInt
theorem rn_cT {cc : ClassFile.Cond} {x y : Int32} (hc : am_cmp cc x y = true) : rn_c cc x y := by
  unfold am_cmp at hc
  unfold rn_c
  cases cc <;> dsimp only at hc ⊢ <;> have hc' := of_decide_eq_true hc
  · exact ⟨hc', by rw [hc']⟩
  · exact ⟨hc', fun e => hc' (Int32.toInt_inj.mp e)⟩
  · exact Int32.lt_iff_toInt_lt.mp hc'
  · exact Int32.le_iff_toInt_le.mp hc'
  · exact Int32.lt_iff_toInt_lt.mp hc'
  · exact Int32.le_iff_toInt_le.mp hc'
theorem rn_cF {cc : ClassFile.Cond} {x y : Int32} (hc : am_cmp cc x y = false) : rn_nc cc x y := by
  unfold am_cmp at hc
  unfold rn_nc
  cases cc <;> dsimp only at hc ⊢ <;> have hc' := of_decide_eq_false hc
  · exact ⟨hc', fun e => hc' (Int32.toInt_inj.mp e)⟩
  · have e : x = y := Decidable.not_not.mp hc'
    exact ⟨e, by rw [e]⟩
  · rw [Int32.lt_iff_toInt_lt] at hc'; omega
  · rw [Int32.le_iff_toInt_le] at hc'; omega
  · rw [Int32.lt_iff_toInt_lt] at hc'; omega
  · rw [Int32.le_iff_toInt_le] at hc'; omega
theorem rn_br {cc : ClassFile.Cond} {x y : Int32} {a : Nat} {off : Int} {hh : am_H} (hn : am_cur M k i) (e1 : ∀ cs nc ns, am_end M (i :: cs, ls, st, am_ks0, h, nc, ns) = none) (ea : i.2.2.2.1.1 = a) (e2 : ∀ rc cs nc ns, am_one am_φ false am_G0 rc M (i :: cs, ls, st, am_ks0, h, nc, ns) = am_br M i cs (am_cmp cc x y) off ls st' am_ks0 h nc ns) (hr : rn n M k ls st h r h') : (rn_c cc x y ∧ rn n M a ls st' h r h') ∨ (rn_nc cc x y ∧ rn n M (k + 1) ls st' h r h') := by
  obtain ⟨nc, ns, m, f', hm, hone, hrun⟩ := rn_s hn e1 hr
  rw [e2] at hone
  unfold am_br at hone
  cases hb : am_cmp cc x y with
  | true =>
    rw [hb] at hone
    have := rn_jp_inv hone
    cases this
    rw [ea] at hrun
    exact Or.inl ⟨rn_cT hb, hr.1, hr.2.1, nc, ns, m, by omega, hrun⟩
  | false =>
    rw [hb] at hone
    have := rn_go_inv hone
    cases this
    exact Or.inr ⟨rn_cF hb, hr.1, hr.2.1, nc, ns, m, by omega, hrun⟩
theorem rn_if {cc : ClassFile.Cond} {off : Int} {a b c : Nat} {x : Int32} (hn : am_cur M k (pc, len, .ifCond cc off, (a, b, c), z)) (hr : rn n M k ls (.int x :: st) h r h') : (rn_c cc x 0 ∧ rn n M a ls st h r h') ∨ (rn_nc cc x 0 ∧ rn n M (k + 1) ls st h r h') := rn_br (off := off) (hh := h) hn (fun _ _ _ => rfl) rfl (fun _ _ _ _ => rfl) hr
theorem rn_cmp {cc : ClassFile.Cond} {off : Int} {a b c : Nat} {x y : Int32} (hn : am_cur M k (pc, len, .if_icmp cc off, (a, b, c), z)) (hr : rn n M k ls (.int y :: .int x :: st) h r h') : (rn_c cc x y ∧ rn n M a ls st h r h') ∨ (rn_nc cc x y ∧ rn n M (k + 1) ls st h r h') := rn_br (off := off) (hh := h) hn (fun _ _ _ => rfl) rfl (fun _ _ _ _ => rfl) hr
theorem rn_brX {cc : ClassFile.Cond} {x y : Int32} {a : Nat} {off : Int} (hn : am_cur M k i) (e1 : ∀ cs nc ns, am_end M (i :: cs, ls, st, am_ks0, h, nc, ns) = none) (ea : i.2.2.2.1.1 = a) (e2 : ∀ rc cs nc ns, am_one am_φ false am_G0 rc M (i :: cs, ls, st, am_ks0, h, nc, ns) = am_br M i cs (am_cmp cc x y) off ls st' am_ks0 h nc ns) (hr : rn n M k ls st h r h') : (am_cmp cc x y = true → rn n M a ls st' h r h') ∧ (am_cmp cc x y = false → rn n M (k + 1) ls st' h r h') := by
  obtain ⟨nc, ns, m, f', hm, hone, hrun⟩ := rn_s hn e1 hr
  rw [e2] at hone
  unfold am_br at hone
  refine ⟨fun hb => ?_, fun hb => ?_⟩
  · rw [hb] at hone
    have := rn_jp_inv hone
    cases this
    rw [ea] at hrun
    exact ⟨hr.1, hr.2.1, nc, ns, m, by omega, hrun⟩
  · rw [hb] at hone
    have := rn_go_inv hone
    cases this
    exact ⟨hr.1, hr.2.1, nc, ns, m, by omega, hrun⟩
theorem rn_ifT {cc : ClassFile.Cond} {off : Int} {a b c : Nat} {x : Int32} (hn : am_cur M k (pc, len, .ifCond cc off, (a, b, c), z)) (hb : am_cmp cc x 0 = true) (hr : rn n M k ls (.int x :: st) h r h') : rn n M a ls st h r h' := (rn_brX (off := off) hn (fun _ _ _ => rfl) rfl (fun _ _ _ _ => rfl) hr).1 hb
theorem rn_ifF {cc : ClassFile.Cond} {off : Int} {a b c : Nat} {x : Int32} (hn : am_cur M k (pc, len, .ifCond cc off, (a, b, c), z)) (hb : am_cmp cc x 0 = false) (hr : rn n M k ls (.int x :: st) h r h') : rn n M (k + 1) ls st h r h' := (rn_brX (off := off) hn (fun _ _ _ => rfl) rfl (fun _ _ _ _ => rfl) hr).2 hb
theorem rn_cmpT {cc : ClassFile.Cond} {off : Int} {a b c : Nat} {x y : Int32} (hn : am_cur M k (pc, len, .if_icmp cc off, (a, b, c), z)) (hb : am_cmp cc x y = true) (hr : rn n M k ls (.int y :: .int x :: st) h r h') : rn n M a ls st h r h' := (rn_brX (off := off) hn (fun _ _ _ => rfl) rfl (fun _ _ _ _ => rfl) hr).1 hb
theorem rn_cmpF {cc : ClassFile.Cond} {off : Int} {a b c : Nat} {x y : Int32} (hn : am_cur M k (pc, len, .if_icmp cc off, (a, b, c), z)) (hb : am_cmp cc x y = false) (hr : rn n M k ls (.int y :: .int x :: st) h r h') : rn n M (k + 1) ls st h r h' := (rn_brX (off := off) hn (fun _ _ _ => rfl) rfl (fun _ _ _ _ => rfl) hr).2 hb
theorem rn_sw_inv {a : Nat} {t : Int} {nc ns : Nat} {f' : am_F ⊕ am_O} (ht : a < M.2.2.2.length ∧ (am_seek M.2.2.2 t).length = M.2.2.2.length - a) (hf : am_sw M t ls st am_ks0 h nc ns = some f') : f' = .inl (M.2.2.2.drop a, ls, st, am_ks0, h, nc, ns) := by
  rw [am_sw_ok ht.1 ht.2] at hf
  cases hf
  rfl
theorem rn_swI {d lo hi : Int} {offs : Array Int} {x : Int32} {off : Int} {a : Nat} (hn : am_cur M k (pc, len, .tableswitch d lo hi offs, an, z)) (hx : ¬ (x.toInt < lo ∨ hi < x.toInt)) (ho : offs[(x.toInt - lo).toNat]? = some off) (ht : a < M.2.2.2.length ∧ (am_seek M.2.2.2 (pc + off)).length = M.2.2.2.length - a) (hr : rn n M k ls (.int x :: st) h r h') : rn n M a ls st h r h' := by
  obtain ⟨nc, ns, m, f', hm, hone, hrun⟩ := rn_s hn (fun _ _ _ => rfl) hr
  simp only [am_one, if_neg hx, ho] at hone
  have := rn_sw_inv ht hone
  cases this
  exact ⟨hr.1, hr.2.1, nc, ns, m, by omega, hrun⟩
theorem rn_swO {d lo hi : Int} {offs : Array Int} {x : Int32} {a : Nat} (hn : am_cur M k (pc, len, .tableswitch d lo hi offs, an, z)) (hx : x.toInt < lo ∨ hi < x.toInt) (ht : a < M.2.2.2.length ∧ (am_seek M.2.2.2 (pc + d)).length = M.2.2.2.length - a) (hr : rn n M k ls (.int x :: st) h r h') : rn n M a ls st h r h' := by
  obtain ⟨nc, ns, m, f', hm, hone, hrun⟩ := rn_s hn (fun _ _ _ => rfl) hr
  simp only [am_one, if_pos hx] at hone
  have := rn_sw_inv ht hone
  cases this
  exact ⟨hr.1, hr.2.1, nc, ns, m, by omega, hrun⟩
theorem rn_swX {d lo hi : Int} {offs : Array Int} {x : Int32} {a : Nat} (hn : am_cur M k (pc, len, .tableswitch d lo hi offs, an, z)) (hx : x.toInt < lo ∨ hi < x.toInt ∨ offs[(x.toInt - lo).toNat]? = some d) (ht : a < M.2.2.2.length ∧ (am_seek M.2.2.2 (pc + d)).length = M.2.2.2.length - a) (hr : rn n M k ls (.int x :: st) h r h') : rn n M a ls st h r h' := by
  by_cases q : x.toInt < lo ∨ hi < x.toInt
  · exact rn_swO hn q ht hr
  · refine rn_swI hn q ?_ ht hr
    rcases hx with hx | hx | hx
    · exact absurd (Or.inl hx) q
    · exact absurd (Or.inr hx) q
    · exact hx
/-- a field of ints or booleans -/
def rg_fi (ci o f : Nat) : Bool := Nat.blt f (am_tys ci).length && Nat.blt (rg_c o f) 2
theorem rn_getf {idx ci f c o : Nat} {v : Value} (hn : am_cur M k (pc, len, .getfield idx, (ci, f, c), z)) (hv : am_ks0[o]? = some (.inl ci) → h o f = v) (hr : rn n M k ls (.ref o :: st) h r h') : rn n M (k + 1) ls (v :: st) h r h' :=
  (rn_gx (Pp := True) hn (fun _ _ _ => rfl) (fun rc cs nc ns x hx => ⟨trivial, by
    simp only [am_one] at hx
    split at hx
    · rename_i cj hk
      obtain ⟨e, hx⟩ := rn_cond hx
      have e := Nat.eq_of_beq_eq_true e
      subst e
      rw [hv hk] at hx
      exact hx
    · cases hx⟩) (fun _ => hr.2.1) hr).2
theorem rn_getI {idx ci f c o : Nat} {v : Int32} (hn : am_cur M k (pc, len, .getfield idx, (ci, f, c), z)) (hc : rg_fi ci o f = true) (e : rg_v h o f = v) (hr : rn n M k ls (.ref o :: st) h r h') : rn n M (k + 1) ls (.int v :: st) h r h' :=
  rn_getf hn (fun hk => by
    unfold rg_fi at hc
    rw [Bool.and_eq_true] at hc
    rw [← e]
    exact rg_int hr.2.1 hk (Nat.le_of_ble_eq_true hc.1) hc.2) hr
theorem rn_getR {idx ci f c o x : Nat} (hn : am_cur M k (pc, len, .getfield idx, (ci, f, c), z)) (hc : (Nat.blt f (am_tys ci).length && Nat.beq (rg_c o f) (x + 4)) = true) (hr : rn n M k ls (.ref o :: st) h r h') : rn n M (k + 1) ls (.ref x :: st) h r h' :=
  rn_getf hn (fun hk => by
    rw [Bool.and_eq_true] at hc
    exact rg_ref hr.2.1 hk (Nat.le_of_ble_eq_true hc.1) (Nat.eq_of_beq_eq_true hc.2)) hr
theorem rn_getM {idx ci f c o x : Nat} (hn : am_cur M k (pc, len, .getfield idx, (ci, f, c), z)) (e : h o f = .ref x) (hr : rn n M k ls (.ref o :: st) h r h') : rn n M (k + 1) ls (.ref x :: st) h r h' := rn_getf hn (fun _ => e) hr
theorem rn_getL {idx ci f c o : Nat} {v : Int64} (hn : am_cur M k (pc, len, .getfield idx, (ci, f, c), z)) (hc : (Nat.blt f (am_tys ci).length && Nat.beq (rg_c o f) 2) = true) (e : rg_l h o f = v) (hr : rn n M k ls (.ref o :: st) h r h') : rn n M (k + 1) ls (.long v :: st) h r h' :=
  rn_getf hn (fun hk => by
    rw [Bool.and_eq_true] at hc
    rw [← e]
    exact rg_lon hr.2.1 hk (Nat.le_of_ble_eq_true hc.1) (Nat.eq_of_beq_eq_true hc.2)) hr
theorem rn_put {idx ci f c o : Nat} {v : Value} (hn : am_cur M k (pc, len, .putfield idx, (ci, f, c), z)) (hc : Nat.beq (rg_cl ci f) 9 = false) (hr : rn n M k ls (v :: .ref o :: st) h r h') : rn n M (k + 1) ls st (am_up h o f v) r h' :=
  (rn_gx (Pp := ∃ hk : am_ks0[o]? = some (.inl ci), am_fit ((am_tys ci).getD f .int) v = true) hn (fun _ _ _ => rfl) (fun rc cs nc ns x hx => by
    simp only [am_one] at hx
    split at hx
    · rename_i cj hk
      obtain ⟨e, hx⟩ := rn_cond hx
      rw [Bool.and_eq_true] at e
      have e1 := Nat.eq_of_beq_eq_true e.1
      subst e1
      exact ⟨⟨hk, e.2⟩, hx⟩
    · cases hx) (fun hp => by
    obtain ⟨hk, hf⟩ := hp
    exact rg_up_f hr.2.1 hk hc hf) hr).2
theorem rn_ald {j : Int32} {ty : FieldType} {q : Value → am_R} {N o : Nat} {x : am_F ⊕ am_O} (hk : am_ks0[o]? = some (.inr (ty, N))) (hf : am_ald am_G0 am_ks0 h (.ref o) j ty q = some x) : ((j.toNatClampNeg : Int) = j.toInt ∧ j.toNatClampNeg < N) ∧ q (h o j.toNatClampNeg) = some x := by
  simp only [am_ald, hk] at hf
  exact rn_ix (rn_cond hf).2
theorem rn_ast {j : Int32} {ty : FieldType} {v : Value} {q : am_H → am_R} {N o : Nat} {x : am_F ⊕ am_O} (hk : am_ks0[o]? = some (.inr (ty, N))) (hf : am_ast am_ks0 h (.ref o) j ty v q = some x) : ((j.toNatClampNeg : Int) = j.toInt ∧ j.toNatClampNeg < N) ∧ q (am_up h o j.toNatClampNeg v) = some x := by
  simp only [am_ast, hk] at hf
  exact rn_ix (rn_cond hf).2
theorem rg_arc {o N : Nat} {ty : FieldType} (hk : am_ks0[o]? = some (.inr (ty, N))) (ht : ∀ s, ty ≠ .object s) {q : Nat} (hq : q < N) : rg_ty ty (rg_c o q) = true := by
  have hb := rg_clB_ok hk
  unfold rg_clB at hb
  rw [hk] at hb
  have hb' := rg_ob ht hb
  exact List.all_eq_true.mp hb' q (List.mem_range.mpr hq)
theorem rg_ai {o N : Nat} (hG : rg_Gd h) (hk : am_ks0[o]? = some (.inr (.int, N))) {q : Nat} (hq : q < N) : h o q = .int (rg_v h o q) :=
  rg_int hG hk hq (by rw [Nat.eq_of_beq_eq_true (rg_arc hk (fun s h => by cases h) hq)]; rfl)
theorem rg_ab {o N : Nat} (hG : rg_Gd h) (hk : am_ks0[o]? = some (.inr (.boolean, N))) {q : Nat} (hq : q < N) : h o q = .int (rg_v h o q) ∧ (rg_v h o q = 0 ∨ rg_v h o q = 1) := by
  have e := Nat.eq_of_beq_eq_true (rg_arc hk (fun s h => by cases h) hq)
  exact ⟨rg_int hG hk hq (by rw [e]; rfl), rg_boo hG hk hq e⟩
theorem rg_al {o N : Nat} (hG : rg_Gd h) (hk : am_ks0[o]? = some (.inr (.long, N))) {q : Nat} (hq : q < N) : h o q = .long (rg_l h o q) :=
  rg_lon hG hk hq (Nat.eq_of_beq_eq_true (rg_arc hk (fun s h => by cases h) hq))
theorem rn_iaload {o N q : Nat} {j v : Int32} (hn : am_cur M k (pc, len, .iaload, an, z)) (hk : am_ks0[o]? = some (.inr (.int, N))) (hq : j.toNatClampNeg = q) (e : rg_v h o q = v) (hr : rn n M k ls (.int j :: .ref o :: st) h r h') : ((q : Int) = j.toInt ∧ q < N) ∧ rn n M (k + 1) ls (.int v :: st) h r h' :=
  rn_gx hn (fun _ _ _ => rfl) (fun rc cs nc ns x hx => by
    simp only [am_one] at hx
    obtain ⟨hp, hx⟩ := rn_ald hk hx
    rw [hq] at hp hx
    rw [rg_ai hr.2.1 hk hp.2, e] at hx
    exact ⟨hp, hx⟩) (fun _ => hr.2.1) hr
theorem rn_baload {o N q : Nat} {j v : Int32} (hn : am_cur M k (pc, len, .baload, an, z)) (hk : am_ks0[o]? = some (.inr (.boolean, N))) (hq : j.toNatClampNeg = q) (e : rg_v h o q = v) (hr : rn n M k ls (.int j :: .ref o :: st) h r h') : ((q : Int) = j.toInt ∧ q < N ∧ (v = 0 ∨ v = 1)) ∧ rn n M (k + 1) ls (.int v :: st) h r h' :=
  rn_gx hn (fun _ _ _ => rfl) (fun rc cs nc ns x hx => by
    simp only [am_one] at hx
    obtain ⟨hp, hx⟩ := rn_ald hk hx
    rw [hq] at hp hx
    have g := rg_ab hr.2.1 hk hp.2
    rw [g.1, e] at hx
    rw [e] at g
    exact ⟨⟨hp.1, hp.2, g.2⟩, hx⟩) (fun _ => hr.2.1) hr
theorem rn_laload {o N q : Nat} {j : Int32} {v : Int64} (hn : am_cur M k (pc, len, .laload, an, z)) (hk : am_ks0[o]? = some (.inr (.long, N))) (hq : j.toNatClampNeg = q) (e : rg_l h o q = v) (hr : rn n M k ls (.int j :: .ref o :: st) h r h') : ((q : Int) = j.toInt ∧ q < N) ∧ rn n M (k + 1) ls (.long v :: st) h r h' :=
  rn_gx hn (fun _ _ _ => rfl) (fun rc cs nc ns x hx => by
    simp only [am_one] at hx
    obtain ⟨hp, hx⟩ := rn_ald hk hx
    rw [hq] at hp hx
    rw [rg_al hr.2.1 hk hp.2, e] at hx
    exact ⟨hp, hx⟩) (fun _ => hr.2.1) hr
theorem rn_aaload {o N q : Nat} {s : String} {j : Int32} (hn : am_cur M k (pc, len, .aaload, an, z)) (hk : am_ks0[o]? = some (.inr (.object s, N))) (hq : j.toNatClampNeg = q) (hr : rn n M k ls (.int j :: .ref o :: st) h r h') : ((q : Int) = j.toInt ∧ q < N) ∧ rn n M (k + 1) ls (.ref (rg_r h o q) :: st) h r h' :=
  rn_gx hn (fun _ _ _ => rfl) (fun rc cs nc ns x hx => by
    simp only [am_one, am_aald, hk] at hx
    obtain ⟨hp, hx⟩ := rn_ix hx
    rw [hq] at hp hx
    unfold am_pushR at hx
    split at hx
    · rename_i y hy
      rw [rg_r_e hy]
      exact ⟨hp, hx⟩
    · cases hx) (fun _ => hr.2.1) hr
theorem rn_iastore {o N q : Nat} {j v : Int32} (hn : am_cur M k (pc, len, .iastore, an, z)) (hk : am_ks0[o]? = some (.inr (.int, N))) (hq : j.toNatClampNeg = q) (hr : rn n M k ls (.int v :: .int j :: .ref o :: st) h r h') : ((q : Int) = j.toInt ∧ q < N) ∧ rn n M (k + 1) ls st (am_up h o q (.int v)) r h' :=
  rn_gx hn (fun _ _ _ => rfl) (fun rc cs nc ns x hx => by
    simp only [am_one, am_φ, am_pushI] at hx
    obtain ⟨hp, hx⟩ := rn_ast hk hx
    rw [hq] at hp hx
    exact ⟨hp, hx⟩) (fun hp => rg_up_a hr.2.1 hk (fun s h => by cases h) hp.2 rfl) hr
theorem rn_bastore {o N q : Nat} {j v : Int32} (hn : am_cur M k (pc, len, .bastore, an, z)) (hk : am_ks0[o]? = some (.inr (.boolean, N))) (hq : j.toNatClampNeg = q) (hr : rn n M k ls (.int v :: .int j :: .ref o :: st) h r h') : ((q : Int) = j.toInt ∧ q < N ∧ am_fit .boolean (.int v) = true) ∧ rn n M (k + 1) ls st (am_up h o q (.int v)) r h' :=
  rn_gx hn (fun _ _ _ => rfl) (fun rc cs nc ns x hx => by
    simp only [am_one, am_φ, am_pushI] at hx
    obtain ⟨hf, hx⟩ := rn_cond hx
    obtain ⟨hp, hx⟩ := rn_ast hk hx
    rw [hq] at hp hx
    exact ⟨⟨hp.1, hp.2, hf⟩, hx⟩) (fun hp => rg_up_a hr.2.1 hk (fun s h => by cases h) hp.2.1 hp.2.2) hr
theorem rn_lastore {o N q : Nat} {j : Int32} {v : Int64} (hn : am_cur M k (pc, len, .lastore, an, z)) (hk : am_ks0[o]? = some (.inr (.long, N))) (hq : j.toNatClampNeg = q) (hr : rn n M k ls (.long v :: .int j :: .ref o :: st) h r h') : ((q : Int) = j.toInt ∧ q < N) ∧ rn n M (k + 1) ls st (am_up h o q (.long v)) r h' :=
  rn_gx hn (fun _ _ _ => rfl) (fun rc cs nc ns x hx => by
    simp only [am_one, am_φ, am_pushL] at hx
    obtain ⟨hp, hx⟩ := rn_ast hk hx
    rw [hq] at hp hx
    exact ⟨hp, hx⟩) (fun hp => rg_up_a hr.2.1 hk (fun s h => by cases h) hp.2 rfl) hr
theorem rn_len {o N : Nat} {ty : FieldType} {w : Int32} (hn : am_cur M k (pc, len, .arraylength, an, z)) (hk : am_ks0[o]? = some (.inr (ty, N))) (hw : Int32.ofNat N = w) (hr : rn n M k ls (.ref o :: st) h r h') : rn n M (k + 1) ls (.int w :: st) h r h' := rn_go hn (fun _ _ _ => rfl) (fun _ _ _ _ => by simp only [am_one, am_len, hk, hw]) hr
theorem rn_max {idx a b : Nat} {x y w : Int32} (hn : am_cur M k (pc, len, .invokestatic idx, (a, b, 1), z)) (hw : (if x < y then y else x) = w) (hr : rn n M k ls (.int y :: .int x :: st) h r h') : rn n M (k + 1) ls (.int w :: st) h r h' :=
  (rn_gx (Pp := True) hn (fun _ _ _ => rfl) (fun rc cs nc ns q hx => ⟨trivial, by
    simp only [am_one, am_math, hw] at hx
    exact (rn_cond hx).2⟩) (fun _ => hr.2.1) hr).2
theorem rn_min {idx a b : Nat} {x y w : Int32} (hn : am_cur M k (pc, len, .invokestatic idx, (a, b, 2), z)) (hw : (if y < x then y else x) = w) (hr : rn n M k ls (.int y :: .int x :: st) h r h') : rn n M (k + 1) ls (.int w :: st) h r h' :=
  (rn_gx (Pp := True) hn (fun _ _ _ => rfl) (fun rc cs nc ns q hx => ⟨trivial, by
    simp only [am_one, am_math, hw] at hx
    exact (rn_cond hx).2⟩) (fun _ => hr.2.1) hr).2
theorem rn_calls {i : am_I} {a : Nat} {M' : am_M} {as rest : List Value} {L : am_L} (hn : am_cur M k i) (ha : rg_ok a = true) (hM : am_prog[a]? = some M') (hL : lv_args 0 as = L) (e1 : ∀ cs nc ns, am_end M (i :: cs, ls, st, am_ks0, h, nc, ns) = none)
    (e2 : ∀ rc cs nc ns x, am_one am_φ false am_G0 rc M (i :: cs, ls, st, am_ks0, h, nc, ns) = some x → am_calls false M M' a rc i cs ls as rest am_ks0 h nc ns = some x) (hr : rn n M k ls st h r h') :
    ∃ r1 h1, rn n M' 0 L [] h r1 h1 ∧ rn n M (k + 1) ls (r1.toList ++ rest) h1 r h' := by
  obtain ⟨nc, ns, m, f', hm, hone, hrun⟩ := rn_s hn e1 hr
  have hc := e2 _ _ _ _ _ hone
  unfold am_calls at hc
  obtain ⟨-, hc⟩ := rn_cond hc
  split at hc
  · cases hc
  · rename_i r1 ks' h1 hq
    have hM' : rn_K M'.2.2.2 := rg_M_ok ha hM
    unfold am_rc at hq
    rw [show am_G0.1 a = some M' from hM] at hq
    have hg := rn_run m M' _ _ _ h 0 0 _ hM' hM' hr.2.1 hq
    dsimp only at hg
    obtain ⟨rfl, hG1⟩ := hg
    obtain ⟨-, hc⟩ := rn_cond hc
    have := rn_go_inv hc
    cases this
    refine ⟨r1, h1, ⟨hM', hr.2.1, 0, 0, m, by omega, ?_⟩, hr.1, hG1, _, _, m, by omega, hrun⟩
    rw [← hL]
    exact hq
theorem rn_I (hn : am_cur M k i) (hr : rn n M k ls st h r h') : rw_I rn_w i = true := hr.1 i (List.mem_of_mem_drop (hn ▸ List.mem_cons_self ..))
theorem rn_callV {idx a b c o : Nat} {M' : am_M} {ar rest : List Value} {L : am_L} (hn : am_cur M k (pc, len, .invokevirtual idx, (a, b, c + 1), z)) (hM : am_prog[a]? = some M') (ht : st.take M'.2.1.2.2 = ar) (hd : st.drop M'.2.1.2.2 = .ref o :: rest) (hL : lv_args 0 (.ref o :: ar.reverse) = L) (hr : rn n M k ls st h r h') :
    ∃ r1 h1, rn n M' 0 L [] h r1 h1 ∧ rn n M (k + 1) ls (r1.toList ++ rest) h1 r h' :=
  rn_calls hn (rn_I hn hr) hM hL (fun _ _ _ => rfl) (fun rc cs nc ns x hx => by
    simp only [am_one, am_callV, show am_G0.1 a = some M' from hM, hd, ht] at hx
    split at hx
    · exact (rn_cond hx).2
    · cases hx) hr
theorem rn_callI {idx a b c o : Nat} {M' : am_M} {ar rest : List Value} {L : am_L} (hn : am_cur M k (pc, len, .invokespecial idx, (a, b, c + 1), z)) (hM : am_prog[a]? = some M') (ht : st.take M'.2.1.2.2 = ar) (hd : st.drop M'.2.1.2.2 = .ref o :: rest) (hL : lv_args 0 (.ref o :: ar.reverse) = L) (hr : rn n M k ls st h r h') :
    ∃ r1 h1, rn n M' 0 L [] h r1 h1 ∧ rn n M (k + 1) ls (r1.toList ++ rest) h1 r h' :=
  rn_calls hn (rn_I hn hr) hM hL (fun _ _ _ => rfl) (fun rc cs nc ns x hx => by
    simp only [am_one, am_callV, show am_G0.1 a = some M' from hM, hd, ht] at hx
    split at hx
    · exact (rn_cond hx).2
    · cases hx) hr
theorem rn_callS {idx a b c : Nat} {M' : am_M} {ar rest : List Value} {L : am_L} (hn : am_cur M k (pc, len, .invokestatic idx, (a, b, c + 3), z)) (hM : am_prog[a]? = some M') (ht : st.take M'.2.1.2.2 = ar) (hd : st.drop M'.2.1.2.2 = rest) (hL : lv_args 0 ar.reverse = L) (hr : rn n M k ls st h r h') :
    ∃ r1 h1, rn n M' 0 L [] h r1 h1 ∧ rn n M (k + 1) ls (r1.toList ++ rest) h1 r h' :=
  rn_calls hn (rn_I hn hr) hM hL (fun _ _ _ => rfl) (fun rc cs nc ns x hx => by
    simp only [am_one, am_callS, show am_G0.1 a = some M' from hM, hd, ht] at hx
    exact (rn_cond hx).2) hr
theorem rn_e (hn : am_cur M k i) (hx : ∀ rc cs nc ns, am_one am_φ false am_G0 rc M (i :: cs, ls, st, am_ks0, h, nc, ns) = none) (hr : rn n M k ls st h r h') : ∃ nc ns, am_end M (i :: M.2.2.2.drop (k + 1), ls, st, am_ks0, h, nc, ns) = some (r, am_ks0, h') := by
  obtain ⟨hM, hG, nc, ns, m, hm, hrun⟩ := hr
  cases m with
  | zero => cases hrun
  | succ m =>
    rw [hn, am_run_s] at hrun
    split at hrun
    · rename_i r0 he
      cases hrun
      exact ⟨nc, ns, he⟩
    · rw [hx] at hrun
      cases hrun
theorem rn_retE {v : Option Value} {nc ns : Nat} {q : am_O} (hv : am_ret M v am_ks0 h nc ns = some q) : q = (v, am_ks0, h) := by
  unfold am_ret at hv
  cases hb : (Nat.ble nc M.2.2.1.2.2.1 && Nat.ble ns M.2.2.1.2.2.2) with
  | false => rw [hb] at hv; cases hv
  | true => rw [hb] at hv; cases hv; rfl
theorem rn_iret {v : Int32} (hn : am_cur M k (pc, len, .ireturn, an, z)) (hr : rn n M k ls [.int v] h r h') : r = some (.int v) ∧ h' = h := by
  obtain ⟨nc, ns, he⟩ := rn_e hn (fun _ _ _ _ => rfl) hr
  simp only [am_end] at he
  split at he
  · rename_i ty _
    generalize am_fit ty (.int v) = bb at he
    cases bb with
    | false => cases he
    | true => have := rn_retE he; cases this; exact ⟨rfl, rfl⟩
  · cases he
theorem rn_lret {v : Int64} (hn : am_cur M k (pc, len, .lreturn, an, z)) (hr : rn n M k ls [.long v] h r h') : r = some (.long v) ∧ h' = h := by
  obtain ⟨nc, ns, he⟩ := rn_e hn (fun _ _ _ _ => rfl) hr
  simp only [am_end] at he
  split at he
  · have := rn_retE he; cases this; exact ⟨rfl, rfl⟩
  · cases he
theorem rn_vret (hn : am_cur M k (pc, len, .return_, an, z)) (hr : rn n M k ls [] h r h') : r = none ∧ h' = h := by
  obtain ⟨nc, ns, he⟩ := rn_e hn (fun _ _ _ _ => rfl) hr
  simp only [am_end] at he
  split at he
  · have := rn_retE he; cases this; exact ⟨rfl, rfl⟩
  · cases he
end RNS
