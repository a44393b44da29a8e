/-! ===== WHERE AN INSTRUCTION LEADS ===== -/
/-- instruction, what is known there, what changed -/
abbrev ab_O : Type := Nat × ab_F × ab_E
def ab_tg (M : am_M) (a : Nat) (t : Int) : Bool := match M.2.2.2.drop a with
  | [] => false
  | j :: _ => decide ((j.1 : Int) = t)
theorem ab_tg_ok {M : am_M} {a : Nat} {t : Int} (h : ab_tg M a t = true) : am_tgt M a t := by
  unfold ab_tg at h
  unfold am_tgt
  split at h
  · cases h
  · rename_i j r hd
    rw [hd]
    exact congrArg some (of_decide_eq_true h)
def ab_nx (i : am_I) (r : List am_I) : Bool := match r with
  | [] => false
  | j :: _ => Nat.beq j.1 (i.1 + i.2.1)
theorem ab_nx_ok {M : am_M} {k : Nat} {i : am_I} {r : List am_I} (hc : M.2.2.2.drop k = i :: r) (h : ab_nx i r = true) : am_nxt M k i := by
  have hr : M.2.2.2.drop (k + 1) = r := by
    rw [← List.drop_drop, hc]
    rfl
  unfold ab_nx at h
  split at h
  · cases h
  · rename_i j r'
    refine ⟨by rw [hr]; exact hc, ?_⟩
    rw [hr]
    exact congrArg some (Nat.eq_of_beq_eq_true h)
theorem ab_cur_ok {M : am_M} {k : Nat} {i : am_I} {r : List am_I} (hc : M.2.2.2.drop k = i :: r) : am_cur M k i := by
  have hr : M.2.2.2.drop (k + 1) = r := by
    rw [← List.drop_drop, hc]
    rfl
  unfold am_cur
  rw [hr]
  exact hc
/-- the run goes on at one of these -/
def ab_Go (T : ab_T) (J : am_H → Prop) (md : List (Nat × Nat)) (G : am_G) (M : am_M) (k : Nat) (ls : am_L) (st : List Value) (h : am_H) (nc ns : Nat) (outs : List ab_O) : Prop :=
  ∃ (t : Nat) (F' : ab_F) (E : ab_E) (ls' : am_L) (st' : List Value) (h' : am_H), (t, F', E) ∈ outs ∧ ab_gF F' ls' st' h' ∧ ab_Inv (ab_hi T) h' ∧ J h' ∧ ab_Fr md h h' ∧ ab_Eff E ls h ls' h' ∧ ∀ Q, am_Ek false G M t ls' st' am_ks0 h' nc ns Q → am_Ek false G M k ls st am_ks0 h nc ns Q
/-- the number 0 -/
def ab_z : ab_S := ab_n (ab_i 0 0)
section ABG
variable {T : ab_T} {J : am_H → Prop} {md : List (Nat × Nat)} {G : am_G} {M : am_M} {k : Nat} {i : am_I} {r : List am_I} {ls : am_L} {st : List Value} {h : am_H} {nc ns : Nat} {F F' : ab_F} {E : ab_E} {pc len : Nat} {z : Int} {outs : List ab_O}
theorem ab_Go_tr (hc : M.2.2.2.drop k = i :: r) (hx : ab_nx i r = true) (hJ : ∀ h', ab_Fr md h h' → J h') (ho : ab_Ok T md G M i ls st h nc ns F' E) : ab_Go T J md G M k ls st h nc ns [(k + 1, F', E)] := by
  obtain ⟨ls', st', h', h1, h2, h3, h4, h5, h6⟩ := ho
  exact ⟨k + 1, F', E, ls', st', h', List.mem_singleton.mpr rfl, h3, h4, hJ h' h5, h5, h6, fun Q K => am_e_of (ab_nx_ok hc hx) h1 h2 K⟩
theorem ab_Go_goto {off : Int} {a b c : Nat} (hc : M.2.2.2.drop k = (pc, len, .goto off, (a, b, c), z) :: r) (ht : ab_tg M a (pc + off) = true) (hI : ab_Inv (ab_hi T) h) (hJ : J h) (hF : ab_gF F ls st h) : ab_Go T J md G M k ls st h nc ns [(a, F, ab_e0)] :=
  ⟨a, F, ab_e0, ls, st, h, List.mem_singleton.mpr rfl, hF, hI, hJ, ab_Fr_refl, ab_Eff_0, fun Q K => am_e_goto (ab_cur_ok hc) (ab_tg_ok ht) K⟩
def ab_two2 (k a : Nat) (c : ClassFile.Cond) (F : ab_F) (x y : ab_S) : List ab_O := (ab_sds c F x y).map (fun G => (a, G, ab_e0)) ++ (ab_sds (ab_neg c) F x y).map (fun G => (k + 1, G, ab_e0))
theorem ab_Go_if {off : Int} {a b c : Nat} {cc : ClassFile.Cond} {e : ab_S} {es : List ab_S} (hc : M.2.2.2.drop k = (pc, len, .ifCond cc off, (a, b, c), z) :: r) (hx : ab_nx (pc, len, .ifCond cc off, (a, b, c), z) r = true) (ht : ab_tg M a (pc + off) = true) (hst : F.2.1 = e :: es) (h0 : ab_is0 e = true) (hI : ab_Inv (ab_hi T) h) (hJ : J h) (hF : ab_gF F ls st h) : ab_Go T J md G M k ls st h nc ns (ab_two2 k a cc (F.1, es, F.2.2) e ab_z) := by
  obtain ⟨v, st', rfl, g1, g2⟩ := ab_top1 hF hst
  obtain ⟨x, rfl, -⟩ := ab_g0 h0 g1.1
  have hF' : ab_gF (F.1, es, F.2.2) ls st' h := ⟨hF.1, g2, hF.2.2⟩
  have hz : ab_gS ls h ab_z (.int 0) := ab_n_ok (ab_i_ok (by decide) (by decide))
  cases hb : am_cmp cc x 0 with
  | true =>
    obtain ⟨F', hm, hg⟩ := ab_sds_ok hF' g1 hz h0 rfl hb
    exact ⟨a, F', ab_e0, ls, st', h, List.mem_append_left _ (List.mem_map.mpr ⟨F', hm, rfl⟩), hg, hI, hJ, ab_Fr_refl, ab_Eff_0, fun Q K => am_e_ifT (ab_nx_ok hc hx) hb (ab_tg_ok ht) K⟩
  | false =>
    obtain ⟨F', hm, hg⟩ := ab_sds_ok hF' g1 hz h0 rfl (ab_neg_ok hb)
    exact ⟨k + 1, F', ab_e0, ls, st', h, List.mem_append_right _ (List.mem_map.mpr ⟨F', hm, rfl⟩), hg, hI, hJ, ab_Fr_refl, ab_Eff_0, fun Q K => am_e_ifF (ab_nx_ok hc hx) hb K⟩
theorem ab_Go_icmp {off : Int} {a b c : Nat} {cc : ClassFile.Cond} {e d : ab_S} {es : List ab_S} (hc : M.2.2.2.drop k = (pc, len, .if_icmp cc off, (a, b, c), z) :: r) (hx : ab_nx (pc, len, .if_icmp cc off, (a, b, c), z) r = true) (ht : ab_tg M a (pc + off) = true) (hst : F.2.1 = d :: e :: es) (h0 : ab_is0 e = true) (h1 : ab_is0 d = true) (hI : ab_Inv (ab_hi T) h) (hJ : J h) (hF : ab_gF F ls st h) : ab_Go T J md G M k ls st h nc ns (ab_two2 k a cc (F.1, es, F.2.2) e d) := by
  obtain ⟨w, v, st', rfl, g1, g2, g3⟩ := ab_top2 hF hst
  obtain ⟨y, rfl, -⟩ := ab_g0 h1 g1.1
  obtain ⟨x, rfl, -⟩ := ab_g0 h0 g2.1
  have hF' : ab_gF (F.1, es, F.2.2) ls st' h := ⟨hF.1, g3, hF.2.2⟩
  cases hb : am_cmp cc x y with
  | true =>
    obtain ⟨F', hm, hg⟩ := ab_sds_ok hF' g2 g1 h0 h1 hb
    exact ⟨a, F', ab_e0, ls, st', h, List.mem_append_left _ (List.mem_map.mpr ⟨F', hm, rfl⟩), hg, hI, hJ, ab_Fr_refl, ab_Eff_0, fun Q K => am_e_cmpT (ab_nx_ok hc hx) hb (ab_tg_ok ht) K⟩
  | false =>
    obtain ⟨F', hm, hg⟩ := ab_sds_ok hF' g2 g1 h0 h1 (ab_neg_ok hb)
    exact ⟨k + 1, F', ab_e0, ls, st', h, List.mem_append_right _ (List.mem_map.mpr ⟨F', hm, rfl⟩), hg, hI, hJ, ab_Fr_refl, ab_Eff_0, fun Q K => am_e_cmpF (ab_nx_ok hc hx) hb K⟩
/-! a switch -/
/-- the instruction at t -/
def ab_swt (M : am_M) (t : Int) : Nat := M.2.2.2.length - (am_seek M.2.2.2 t).length
theorem ab_swt_ok {t : Int} (h : (am_seek M.2.2.2 t).isEmpty = false) : ab_swt M t < M.2.2.2.length ∧ (am_seek M.2.2.2 t).length = M.2.2.2.length - ab_swt M t := by
  have h1 := congrArg List.length (am_seek_suf t M.2.2.2)
  rw [List.length_drop] at h1
  unfold ab_swt
  have h2 : 0 < (am_seek M.2.2.2 t).length := by
    cases hs : am_seek M.2.2.2 t with
    | nil => rw [hs] at h; cases h
    | cons => exact Nat.succ_pos _
  omega
def ab_swL (M : am_M) (pc : Nat) (F : ab_F) (e : ab_S) : Int → List Int → Option (List ab_O)
  | _, [] => some []
  | v, off :: offs => match ab_swL M pc F e (v + 1) offs with
    | none => none
    | some l => cond (decide (v < e.1.2.1) || decide (e.1.2.2.1 < v)) (some l) (cond (am_seek M.2.2.2 (pc + off)).isEmpty none (some ((ab_swt M (pc + off), ab_nt F e v v, ab_e0) :: l)))
theorem ab_swL_ok {e : ab_S} {x : Int32} (hF : ab_gF F ls st h) (he : ab_gS ls h e (.int x)) (h0 : ab_is0 e = true) : ∀ (offs : List Int) (v : Int) (l : List ab_O), ab_swL M pc F e v offs = some l → v ≤ x.toInt → x.toInt < v + offs.length → ∃ off F', offs[(x.toInt - v).toNat]? = some off ∧ (am_seek M.2.2.2 (pc + off)).isEmpty = false ∧ (ab_swt M (pc + off), F', ab_e0) ∈ l ∧ ab_gF F' ls st h := by
  intro offs
  induction offs with
  | nil => intro v l _ h1 h2; simp at h2; omega
  | cons off offs ih =>
    intro v l hl h1 h2
    unfold ab_swL at hl
    split at hl
    · cases hl
    · rename_i l' hl'
      obtain ⟨x', e1, l1, u1⟩ := ab_g0 h0 he.1
      cases e1
      by_cases hv : x.toInt = v
      · have hb : (decide (v < e.1.2.1) || decide (e.1.2.2.1 < v)) = false := by
          simp only [Bool.or_eq_false_iff, decide_eq_false_iff_not]
          omega
        rw [hb, cond_false] at hl
        cases hs : (am_seek M.2.2.2 (pc + off)).isEmpty with
        | true => rw [hs] at hl; cases hl
        | false =>
          rw [hs, cond_false] at hl
          cases hl
          refine ⟨off, _, ?_, hs, List.mem_cons_self, ab_nt_ok hF he.2 (by omega) (by omega)⟩
          rw [hv, Int.sub_self]
          rfl
      · simp only [List.length_cons] at h2
        obtain ⟨off', F', g1, g2, g3, g4⟩ := ih (v + 1) l' hl' (by omega) (by omega)
        refine ⟨off', F', ?_, g2, ?_, g4⟩
        · have : (x.toInt - v).toNat = (x.toInt - (v + 1)).toNat + 1 := by omega
          rw [this, List.getElem?_cons_succ]
          exact g1
        · cases hb : (decide (v < e.1.2.1) || decide (e.1.2.2.1 < v)) with
          | true => rw [hb, cond_true] at hl; cases hl; exact g3
          | false =>
            rw [hb, cond_false] at hl
            cases hs : (am_seek M.2.2.2 (pc + off)).isEmpty with
            | true => rw [hs] at hl; cases hl
            | false =>
              rw [hs, cond_false] at hl
              cases hl
              exact List.mem_cons_of_mem _ g3
def ab_sw (M : am_M) (pc : Nat) (F : ab_F) (e : ab_S) (d lo hi : Int) (offs : Array Int) : Option (List ab_O) :=
  cond (decide (hi < lo + offs.toList.length)) (match ab_swL M pc F e lo offs.toList with
    | none => none
    | some l => cond (decide (e.1.2.1 < lo) || decide (hi < e.1.2.2.1)) (cond (am_seek M.2.2.2 (pc + d)).isEmpty none (some ((ab_swt M (pc + d), F, ab_e0) :: l))) (some l)) none
theorem ab_Go_sw {d lo hi : Int} {offs : Array Int} {an : Nat × Nat × Nat} {e : ab_S} {es : List ab_S} (hc : M.2.2.2.drop k = (pc, len, .tableswitch d lo hi offs, an, z) :: r) (hst : F.2.1 = e :: es) (h0 : ab_is0 e = true) (hl : ab_sw M pc (F.1, es, F.2.2) e d lo hi offs = some outs) (hI : ab_Inv (ab_hi T) h) (hJ : J h) (hF : ab_gF F ls st h) : ab_Go T J md G M k ls st h nc ns outs := by
  obtain ⟨v, st', rfl, g1, g2⟩ := ab_top1 hF hst
  obtain ⟨x, rfl, l1, u1⟩ := ab_g0 h0 g1.1
  have hF' : ab_gF (F.1, es, F.2.2) ls st' h := ⟨hF.1, g2, hF.2.2⟩
  unfold ab_sw at hl
  cases hn : decide (hi < lo + offs.toList.length) with
  | false => rw [hn] at hl; cases hl
  | true =>
    rw [hn, cond_true] at hl
    have hn := of_decide_eq_true hn
    split at hl
    · cases hl
    · rename_i l' hl'
      by_cases hx : x.toInt < lo ∨ hi < x.toInt
      · have hb : (decide (e.1.2.1 < lo) || decide (hi < e.1.2.2.1)) = true := by
          simp only [Bool.or_eq_true, decide_eq_true_eq]
          omega
        rw [hb, cond_true] at hl
        cases hs : (am_seek M.2.2.2 (pc + d)).isEmpty with
        | true => rw [hs] at hl; cases hl
        | false =>
          rw [hs, cond_false] at hl
          cases hl
          exact ⟨_, _, _, ls, st', h, List.mem_cons_self, hF', hI, hJ, ab_Fr_refl, ab_Eff_0, fun Q K => am_e_swO (ab_cur_ok hc) hx (ab_swt_ok hs) K⟩
      · obtain ⟨off, F', q1, q2, q3, q4⟩ := ab_swL_ok hF' g1 h0 offs.toList lo l' hl' (by omega) (by omega)
        have hm : (ab_swt M (pc + off), F', ab_e0) ∈ outs := by
          cases hb : (decide (e.1.2.1 < lo) || decide (hi < e.1.2.2.1)) with
          | false => rw [hb, cond_false] at hl; cases hl; exact q3
          | true =>
            rw [hb, cond_true] at hl
            cases hs : (am_seek M.2.2.2 (pc + d)).isEmpty with
            | true => rw [hs] at hl; cases hl
            | false =>
              rw [hs, cond_false] at hl
              cases hl
              exact List.mem_cons_of_mem _ q3
        refine ⟨_, F', _, ls, st', h, hm, q4, hI, hJ, ab_Fr_refl, ab_Eff_0, fun Q K => am_e_swI (ab_cur_ok hc) hx ?_ (ab_swt_ok q2) K⟩
        rw [← Array.getElem?_toList]
        exact q1
end ABG
