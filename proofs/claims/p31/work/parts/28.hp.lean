/-! ===== READS AND WRITES OF THE HEAP ===== -/
theorem ab_at_up {ls : am_L} {h : am_H} {o k : Nat} {v : Value} {p : ab_P} (hp : (Nat.beq p.1 (o + 1) && Nat.beq p.2 k) = false) : ab_at ls (am_up h o k v) p = ab_at ls h p := by
  obtain ⟨a, j⟩ := p
  cases a with
  | zero => rfl
  | succ o' =>
    show some (am_up h o k v o' j) = some (h o' j)
    by_cases ho : o' = o
    · subst ho
      have hj : ¬ j = k := by
        intro e
        subst e
        rw [Nat.beq_refl, Nat.beq_refl] at hp
        cases hp
      rw [am_up_same _ _ _ _ _ hj]
    · rw [am_up_other _ _ _ _ _ ho]
theorem ab_drop_ok {md : List (Nat × Nat)} {F : ab_F} {es : List ab_S} {ls : am_L} {st : List Value} {h h' : am_H} (hl : ∀ q ∈ F.1, ∃ v, am_get ls q.1 = some v ∧ ab_g q.2 v) (hs : ab_gSt ls h es st) (hk : ∀ q ∈ F.2.2, ∃ v, ab_at ls h q.1 = some v ∧ ab_g q.2 v) (hf : ab_Fr md h h') : ab_gF (ab_drop md F es) ls st h' := by
  unfold ab_drop
  refine ⟨hl, ?_, fun q hq => ?_⟩
  · dsimp only
    refine ab_cut_ok (fun p hp => ?_) hs
    obtain ⟨a, k⟩ := p
    cases a with
    | zero => rfl
    | succ o => exact congrArg some (hf o k hp)
  · obtain ⟨hq, hff⟩ := List.mem_filter.mp hq
    obtain ⟨w, g1, g2⟩ := hk q hq
    obtain ⟨⟨a, k⟩, W⟩ := q
    cases a with
    | zero => cases hff
    | succ o =>
      refine ⟨w, ?_, g2⟩
      have hn : ab_in md o k = false := by simpa using hff
      exact (congrArg some (hf o k hn)).trans g1
theorem ab_Eff_4 {md : List (Nat × Nat)} {ls : am_L} {h h' : am_H} {q : ab_P} {b : Option Int} (hf : ab_Fr md h h') : ab_Eff (4, q, b, md) ls h ls h' := by
  intro p d y hd hy
  obtain ⟨a, k⟩ := p
  cases a with
  | zero =>
    have : (0 : Int) = d := Option.some.inj hd
    subst this
    exact ⟨y, hy, by simp⟩
  | succ o =>
    have hd : cond (ab_in md o k) none (some 0) = some d := hd
    cases hc : ab_in md o k with
    | true => rw [hc] at hd; cases hd
    | false =>
      rw [hc] at hd
      have : (0 : Int) = d := Option.some.inj hd
      subst this
      exact ⟨y, (congrArg some (hf o k hc)).trans hy, by simp⟩
theorem ab_Eff_2 {ls : am_L} {h : am_H} {o k : Nat} {b : Option Int} {v : Value} (hb : ∀ d y, b = some d → h o k = .int y → ∃ y' : Int32, v = .int y' ∧ y'.toInt = y.toInt + d) : ab_Eff (2, (o + 1, k), b, []) ls h ls (am_up h o k v) := by
  intro p d y hd hy
  replace hd : cond (Nat.beq p.1 (o + 1) && Nat.beq p.2 k) b (some 0) = some d := hd
  cases hc : (Nat.beq p.1 (o + 1) && Nat.beq p.2 k) with
  | true =>
    rw [hc, cond_true] at hd
    rw [Bool.and_eq_true] at hc
    have ep : p = (o + 1, k) := Prod.ext (Nat.eq_of_beq_eq_true hc.1) (Nat.eq_of_beq_eq_true hc.2)
    subst ep
    obtain ⟨y', g1, g2⟩ := hb d y hd (Option.some.inj hy)
    refine ⟨y', ?_, g2⟩
    show some (am_up h o k v o k) = _
    rw [am_up_self, g1]
  | false =>
    rw [hc] at hd
    have : (0 : Int) = d := Option.some.inj hd
    subst this
    exact ⟨y, (ab_at_up hc).trans hy, by simp⟩
theorem ab_by_ok {ls : am_L} {h : am_H} {e : ab_S} {v : Value} {p : ab_P} {d : Int} {y : Int32} (hs : ab_gS ls h e v) (hb : ab_by e p = some d) (hy : ab_at ls h p = some (.int y)) : ∃ y' : Int32, v = .int y' ∧ y'.toInt = y.toInt + d := by
  unfold ab_by at hb
  split at hb
  · rename_i e1
    cases hc : (Nat.beq e.2.2.1.1 p.1 && Nat.beq e.2.2.1.2 p.2) with
    | false => rw [hc] at hb; cases hb
    | true =>
      rw [hc, cond_true] at hb
      rw [Bool.and_eq_true] at hc
      have ep : e.2.2.1 = p := Prod.ext (Nat.eq_of_beq_eq_true hc.1) (Nat.eq_of_beq_eq_true hc.2)
      have ht := hs.2
      unfold ab_tie at ht
      rw [e1] at ht
      obtain ⟨x, y2, g1, g2, g3⟩ := ht
      rw [ep, hy] at g2
      cases g2
      have hd := Option.some.inj hb
      exact ⟨x, g1, by rw [← hd]; exact g3⟩
  · cases hb
theorem ab_hi_arr {T : ab_T} {o : Nat} (ha : ab_isA T o = true) (k : Nat) : ab_hi T o k = ab_hi T o 0 := by
  unfold ab_isA at ha
  unfold ab_hi
  split at ha
  · rename_i q hq
    obtain ⟨l, w⟩ := q
    cases l with
    | nil => rfl
    | cons a b => cases ha
  · cases ha
theorem ab_hp_ok {T : ab_T} {F : ab_F} {ls : am_L} {h : am_H} {o k : Nat} {kd : am_k} (hI : ab_Inv (ab_hi T) h) (hk : ∀ q ∈ F.2.2, ∃ v, ab_at ls h q.1 = some v ∧ ab_g q.2 v) (hkd : am_ks0[o]? = some kd) (hz : k < ab_sz kd) : ab_g (ab_hp T F o k) (h o k) := by
  unfold ab_hp
  split
  · rename_i V hV
    obtain ⟨w, g1, g2⟩ := hk _ (ab_find_mem hV)
    have e : h o k = w := Option.some.inj g1
    rw [e]
    exact g2
  · exact hI o k kd hkd hz
theorem ab_ld_ok {T : ab_T} {F : ab_F} {os : List Nat} {k : Option Nat} {e : ab_S} {ls : am_L} {h : am_H} {o kk : Nat} {kd : am_k} (hI : ab_Inv (ab_hi T) h) (hk : ∀ q ∈ F.2.2, ∃ v, ab_at ls h q.1 = some v ∧ ab_g q.2 v) (hl : ab_ld T F os k = some e) (ho : o ∈ os) (hkk : ∀ k', k = some k' → kk = k') (hkd : am_ks0[o]? = some kd) (hz : kk < ab_sz kd) : ab_gS ls h e (h o kk) := by
  unfold ab_ld at hl
  have hg := hI o kk kd hkd hz
  cases k with
  | some k' =>
    have e1 := hkk k' rfl
    subst e1
    match os, ho, hl with
    | [], ho, _ => cases ho
    | [o1], ho, hl =>
      have e2 : o = o1 := List.mem_singleton.mp ho
      subst e2
      have hl : some (ab_rd (ab_hp T F o kk) (o + 1, kk)) = some e := hl
      cases hl
      exact ab_rd_ok (ab_hp_ok hI hk hkd hz) rfl
    | o1 :: o2 :: r, ho, hl =>
      have hl : (ab_jns (ab_hi T o1 kk) ((o2 :: r).map (fun o => ab_hi T o kk))).map ab_n = some e := hl
      obtain ⟨X, hX, rfl⟩ := Option.map_eq_some_iff.mp hl
      refine ab_n_ok (ab_jns_ok hX ?_)
      rcases List.mem_cons.mp ho with e2 | ho
      · exact Or.inl (e2 ▸ hg)
      · exact Or.inr ⟨_, List.mem_map.mpr ⟨o, ho, rfl⟩, hg⟩
  | none =>
    match os, ho, hl with
    | [], ho, _ => cases ho
    | o1 :: r, ho, hl =>
      have hl : cond ((o1 :: r).all (ab_isA T)) ((ab_jns (ab_hi T o1 0) (r.map (fun o => ab_hi T o 0))).map ab_n) none = some e := hl
      cases hc : (o1 :: r).all (ab_isA T) with
      | false => rw [hc] at hl; cases hl
      | true =>
        rw [hc, cond_true] at hl
        obtain ⟨X, hX, rfl⟩ := Option.map_eq_some_iff.mp hl
        refine ab_n_ok (ab_jns_ok hX ?_)
        rw [ab_hi_arr (List.all_eq_true.mp hc o ho)] at hg
        rcases List.mem_cons.mp ho with e2 | ho
        · subst e2
          exact Or.inl hg
        · exact Or.inr ⟨_, List.mem_map.mpr ⟨o, ho, rfl⟩, hg⟩
theorem ab_in_map1 {os : List Nat} {o k : Nat} (ho : o ∈ os) : ab_in (os.map (fun o => (o, k + 1))) o k = true := by
  unfold ab_in
  refine List.any_eq_true.mpr ⟨(o, k + 1), List.mem_map.mpr ⟨o, ho, rfl⟩, ?_⟩
  simp only [Nat.beq_refl, Bool.or_true, Bool.and_self]
theorem ab_in_map0 {os : List Nat} {o k : Nat} (ho : o ∈ os) : ab_in (os.map (fun o => (o, 0))) o k = true := by
  unfold ab_in
  refine List.any_eq_true.mpr ⟨(o, 0), List.mem_map.mpr ⟨o, ho, rfl⟩, ?_⟩
  simp only [Nat.beq_refl, Bool.true_or, Bool.and_self]
theorem ab_in_all {md : List (Nat × Nat)} {o k : Nat} (h : md.any (fun q => Nat.beq q.1 o && Nat.beq q.2 0) = true) : ab_in md o k = true := by
  obtain ⟨q, hq, hb⟩ := List.any_eq_true.mp h
  rw [Bool.and_eq_true] at hb
  exact List.any_eq_true.mpr ⟨q, hq, by rw [hb.1, hb.2]; rfl⟩
/-- what a write makes of all that is known -/
theorem ab_wr_ok {T : ab_T} {md : List (Nat × Nat)} {F F' : ab_F} {E : ab_E} {os : List Nat} {k : Option Nat} {e : ab_S} {es : List ab_S} {st : List Value} {ls : am_L} {h : am_H} {o kk : Nat} {v : Value} (hI : ab_Inv (ab_hi T) h) (hl : ∀ q ∈ F.1, ∃ v, am_get ls q.1 = some v ∧ ab_g q.2 v) (hs : ab_gSt ls h es st) (hk : ∀ q ∈ F.2.2, ∃ v, ab_at ls h q.1 = some v ∧ ab_g q.2 v)
    (hw : ab_wr T md F os k e es = some (F', E)) (ho : o ∈ os) (hkk : ∀ k', k = some k' → kk = k') (hv : ab_gS ls h e v) :
    ab_gF F' ls st (am_up h o kk v) ∧ ab_Inv (ab_hi T) (am_up h o kk v) ∧ ab_Fr md h (am_up h o kk v) ∧ ab_Eff E ls h ls (am_up h o kk v) := by
  unfold ab_wr at hw
  cases k with
  | some k' =>
    have e1 := hkk k' rfl
    subst e1
    dsimp only at hw
    cases hc : os.all (fun o => ab_le e.1 (ab_hi T o kk) && ab_in md o kk) with
    | false => rw [hc] at hw; cases hw
    | true =>
      rw [hc, cond_true] at hw
      have h1 := List.all_eq_true.mp hc o ho
      rw [Bool.and_eq_true] at h1
      have hI' := ab_Inv_up (k := kk) hI (ab_le_ok h1.1 hv.1)
      have hF' : ab_Fr md h (am_up h o kk v) := ab_Fr_up h1.2 ab_Fr_refl
      split at hw
      · rename_i o1
        have e2 : o = o1 := List.mem_singleton.mp ho
        subst e2
        cases hw
        refine ⟨⟨hl, ab_cut_ok (fun p hp => ab_at_up hp) hs, fun q hq => ?_⟩, hI', hF', ab_Eff_2 (fun d y hb hy => ab_by_ok hv hb (congrArg some hy))⟩
        rcases List.mem_cons.mp hq with rfl | hq
        · exact ⟨v, congrArg some (am_up_self _ _ _ _), hv.1⟩
        · obtain ⟨hq, hf⟩ := List.mem_filter.mp hq
          obtain ⟨w, g1, g2⟩ := hk q hq
          exact ⟨w, (ab_at_up (by simpa only [Bool.not_eq_true'] using hf)).trans g1, g2⟩
      · cases hw
        have hf : ab_Fr (os.map (fun o => (o, kk + 1))) h (am_up h o kk v) := ab_Fr_up (ab_in_map1 ho) ab_Fr_refl
        exact ⟨ab_drop_ok hl hs hk hf, hI', hF', ab_Eff_4 hf⟩
  | none =>
    dsimp only at hw
    cases hc : os.all (fun o => ab_isA T o && ab_le e.1 (ab_hi T o 0) && md.any (fun q => Nat.beq q.1 o && Nat.beq q.2 0)) with
    | false => rw [hc] at hw; cases hw
    | true =>
      rw [hc, cond_true] at hw
      have h1 := List.all_eq_true.mp hc o ho
      rw [Bool.and_eq_true, Bool.and_eq_true] at h1
      obtain ⟨⟨a1, a2⟩, a3⟩ := h1
      cases hw
      have hf : ab_Fr (os.map (fun o => (o, 0))) h (am_up h o kk v) := ab_Fr_up (ab_in_map0 ho) ab_Fr_refl
      exact ⟨ab_drop_ok hl hs hk hf, ab_Inv_up hI (by rw [ab_hi_arr a1]; exact ab_le_ok a2 hv.1), ab_Fr_up (ab_in_all a3) ab_Fr_refl, ab_Eff_4 hf⟩
