/-! ===== WHAT HOLDS OF THE MODEL'S CELLS AT ANY TIME (wip/s/tpl/99c.tpl) ===== -/
/-- a blower that is told has times and takes -/
def ac_B (f o : Nat) (h : am_H) : Prop := ∀ (k : Nat) (n : Int32), h 164 f = .int n → (k : Int) < n.toInt → (∃ v : Int32, h 170 (o + 7 * k + 2) = .int v ∧ 1 ≤ v.toInt) ∧ (∃ v : Int32, h 170 (o + 7 * k + 3) = .int v ∧ 1 ≤ v.toInt)
/-- what is lent is kept within bounds -/
def ac_U (h : am_H) : Prop := (∀ u, u < 20 → ∃ v : Int32, h 200 (17 * u + 3) = .int v ∧ -99999 ≤ v.toInt ∧ v.toInt ≤ 99999) ∧ ∃ v : Int32, h 201 3 = .int v ∧ -99999 ≤ v.toInt ∧ v.toInt ≤ 99999
/-- as the fourth and the fifth, of what is read -/
def ac_R4 (h : am_H) : Prop := ∀ l : Int32, h 164 19 = .int l → 1 ≤ l.toInt → ∃ v : Int32, h 173 6 = .int v ∧ 1 ≤ v.toInt
def ac_R5 (h : am_H) : Prop := ∀ (t : Nat) (n : Int32), h 164 18 = .int n → (t : Int) < n.toInt → ∃ k v : Int32, h 171 (8 + t) = .int k ∧ 0 ≤ k.toInt ∧ k.toInt ≤ 3 ∧ h 170 (28 + 7 * k.toInt.toNat + 3) = .int v ∧ 1 ≤ v.toInt
def ac_Jm (h : am_H) : Prop := ab_M1 h ∧ ab_M2 h ∧ ab_M3 h ∧ ab_M4 h ∧ ab_M5 h ∧ ac_M6 h ∧ ac_B 12 0 h ∧ ac_U h ∧ ac_R4 h ∧ ac_R5 h ∧ ac_B 17 28 h ∧ ac_Np h ∧ ac_KW h
def ac_cells : List Nat := [166, 170, 171, 173, 178, 180, 181, 182, 183, 198, 200, 201]
def ac_flds : List Nat := [6, 7, 8, 9, 12, 13, 14, 17, 18, 19]
def ac_inJ (o k : Nat) : Bool := ac_cells.any (fun c => Nat.beq c o) || (Nat.beq o 164 && ac_flds.any (fun c => Nat.beq c k))
theorem ac_c {h h' : am_H} (he : ∀ o k, ac_inJ o k = true → h' o k = h o k) {o : Nat} (ho : ac_cells.any (fun c => Nat.beq c o) = true) (k : Nat) : h' o k = h o k := he o k (by unfold ac_inJ; rw [ho]; rfl)
theorem ac_Jm_fr {h h' : am_H} (he : ∀ o k, ac_inJ o k = true → h' o k = h o k) (hj : ac_Jm h) : ac_Jm h' := by
  obtain ⟨j1, j2, j3, j4, j5, j6, j7, j8, j9, j10, j11, j12, j13⟩ := hj
  have c166 := ac_c he (o := 166) rfl
  have c170 := ac_c he (o := 170) rfl
  have c171 := ac_c he (o := 171) rfl
  have c173 := ac_c he (o := 173) rfl
  have c178 := ac_c he (o := 178) rfl
  have c180 := ac_c he (o := 180) rfl
  have c181 := ac_c he (o := 181) rfl
  have c182 := ac_c he (o := 182) rfl
  have c183 := ac_c he (o := 183) rfl
  have c198 := ac_c he (o := 198) rfl
  have c200 := ac_c he (o := 200) rfl
  have c201 := ac_c he (o := 201) rfl
  have f6 := he 164 6 rfl
  have f7 := he 164 7 rfl
  have f8 := he 164 8 rfl
  have f9 := he 164 9 rfl
  have f12 := he 164 12 rfl
  have f13 := he 164 13 rfl
  have f14 := he 164 14 rfl
  have f17 := he 164 17 rfl
  have f18 := he 164 18 rfl
  have f19 := he 164 19 rfl
  refine ⟨ab_M1_fr c166 j1, ab_M2_fr c181 c182 c183 j2, ab_M3_fr c178 c180 j3, ab_M4_fr f14 (c173 0) j4, ?_, ac_M6_fr c198 j6, ?_, ?_, ?_, ?_, ?_, ?_, ?_⟩
  · intro t n e ht
    rw [f13] at e
    obtain ⟨k, v, g1, g2, g3, g4, g5⟩ := j5 t n e ht
    exact ⟨k, v, (c171 _).trans g1, g2, g3, (c170 _).trans g4, g5⟩
  · intro k n e hk
    rw [f12] at e
    obtain ⟨⟨v, g1, g2⟩, v', g3, g4⟩ := j7 k n e hk
    exact ⟨⟨v, (c170 _).trans g1, g2⟩, v', (c170 _).trans g3, g4⟩
  · obtain ⟨u1, v, u2, u3⟩ := j8
    refine ⟨fun u hu => ?_, v, (c201 _).trans u2, u3⟩
    obtain ⟨w, w1, w2⟩ := u1 u hu
    exact ⟨w, (c200 _).trans w1, w2⟩
  · intro l e hl
    rw [f19] at e
    obtain ⟨v, g1, g2⟩ := j9 l e hl
    exact ⟨v, (c173 _).trans g1, g2⟩
  · intro t n e ht
    rw [f18] at e
    obtain ⟨k, v, g1, g2, g3, g4, g5⟩ := j10 t n e ht
    exact ⟨k, v, (c171 _).trans g1, g2, g3, (c170 _).trans g4, g5⟩
  · intro k n e hk
    rw [f17] at e
    obtain ⟨⟨v, g1, g2⟩, v', g3, g4⟩ := j11 k n e hk
    exact ⟨⟨v, (c170 _).trans g1, g2⟩, v', (c170 _).trans g3, g4⟩
  · obtain ⟨n, s, g1, g2, g3⟩ := j12
    exact ⟨n, s, f7.trans g1, f6.trans g2, g3⟩
  · obtain ⟨k, w, g1, g2, g3⟩ := j13
    exact ⟨k, w, f8.trans g1, f9.trans g2, g3⟩
/-- what may be said beside it: of the class's cells, and of the tokens left -/
def ac_XF (X : am_H → Prop) : Prop := (∀ h h', ac_tk h h' → X h → X h') ∧ (∀ h h', (∀ o k, o < 164 → h' o k = h o k) → h' 164 6 = h 164 6 → h' 164 7 = h 164 7 → h' 164 8 = h 164 8 → X h → X h')
def ac_JX (X : am_H → Prop) (h : am_H) : Prop := ac_Jm h ∧ X h
def ac_disq (q : Nat × Nat) : Bool := Nat.ble 164 q.1 && !ac_cells.any (fun c => Nat.beq c q.1) && (!Nat.beq q.1 164 || (!Nat.beq q.2 0 && !ac_flds.any (fun c => Nat.beq (c + 1) q.2)))
def ac_dis (md : List (Nat × Nat)) : Bool := md.all ac_disq
theorem ac_dis_in {md : List (Nat × Nat)} (hd : ac_dis md = true) {o k : Nat} (ho : ac_inJ o k = true ∨ o < 164) : ab_in md o k = false := by
  cases hi : ab_in md o k with
  | false => rfl
  | true =>
    exfalso
    obtain ⟨q, hq, hb⟩ := List.any_eq_true.mp hi
    have h1 := List.all_eq_true.mp hd q hq
    unfold ac_disq at h1
    rw [Bool.and_eq_true, Bool.or_eq_true] at hb
    have e1 := Nat.eq_of_beq_eq_true hb.1
    rw [Bool.and_eq_true, Bool.and_eq_true] at h1
    obtain ⟨⟨h2, h3⟩, h4⟩ := h1
    have h2 := Nat.le_of_ble_eq_true h2
    rcases ho with ho | ho
    · unfold ac_inJ at ho
      rw [Bool.or_eq_true] at ho
      rcases ho with ho | ho
      · rw [← e1] at ho
        rw [ho] at h3
        cases h3
      · rw [Bool.and_eq_true] at ho
        rw [e1, ho.1] at h4
        simp only [Bool.not_true, Bool.false_or, Bool.and_eq_true, Bool.not_eq_true'] at h4
        rcases hb.2 with h5 | h5
        · rw [h5] at h4
          cases h4.1
        · have e5 := Nat.eq_of_beq_eq_true h5
          obtain ⟨c, hc, hc2⟩ := List.any_eq_true.mp ho.2
          have := List.any_eq_false.mp h4.2 c hc
          rw [e5, Nat.eq_of_beq_eq_true hc2] at this
          exact this (Nat.beq_refl _)
    · omega
theorem ac_dis_fr {md : List (Nat × Nat)} (hd : ac_dis md = true) {h h' : am_H} (hf : ab_Fr md h h') : (∀ o k, ac_inJ o k = true → h' o k = h o k) ∧ ∀ o k, o < 164 → h' o k = h o k :=
  ⟨fun o k ho => hf o k (ac_dis_in hd (Or.inl ho)), fun o k ho => hf o k (ac_dis_in hd (Or.inr ho))⟩
theorem ac_JX_fr {X : am_H → Prop} (hX : ac_XF X) {md : List (Nat × Nat)} (hd : ac_dis md = true) : ∀ h h', ab_Fr md h h' → ac_JX X h → ac_JX X h' := by
  intro h h' hf hj
  obtain ⟨g1, g2⟩ := ac_dis_fr hd hf
  exact ⟨ac_Jm_fr g1 hj.1, hX.2 h h' g2 (g1 _ _ rfl) (g1 _ _ rfl) (g1 _ _ rfl) hj.2⟩
/-- what is written among these cells, the rest as it was -/
theorem ac_X_up {X : am_H → Prop} (hX : ac_XF X) {h : am_H} {o k : Nat} {v : Value} (ho : 164 ≤ o) (hk : o = 164 → ¬ k = 6 ∧ ¬ k = 7 ∧ ¬ k = 8) (hx : X h) : X (am_up h o k v) := by
  have hs : ∀ f, (f = 6 ∨ f = 7 ∨ f = 8) → am_up h o k v 164 f = h 164 f := by
    intro f hf
    by_cases h1 : 164 = o
    · subst h1
      have := hk rfl
      exact am_up_same _ _ _ _ _ (by omega)
    · rw [am_up_other _ _ _ _ _ h1]
  exact hX.2 h _ (fun o' k' ho' => by rw [am_up_other _ _ _ _ _ (show ¬ o' = o by omega)]) (hs 6 (by omega)) (hs 7 (by omega)) (hs 8 (by omega)) hx
theorem ac_Jm_tk {h h' : am_H} (ht : ac_tk h h') (hj : ac_Jm h) : ac_Jm h' := by
  obtain ⟨hf, n, n', s, k', e1, e2, e3, e4, e5, e6, e7, e8⟩ := ht
  obtain ⟨j1, j2, j3, j4, j5, j6, j7, j8, j9, j10, j11, j12, j13⟩ := hj
  have cc : ∀ o k, ¬ o = 164 → h' o k = h o k := fun o k ho => hf o k (by
    unfold ab_in
    simp only [List.any_cons, List.any_nil, Bool.or_false]
    have : Nat.beq 164 o = false := by
      cases hb : Nat.beq 164 o with
      | false => rfl
      | true => exact absurd (Nat.eq_of_beq_eq_true hb).symm ho
    rw [this]
    rfl)
  have f6 : h' 164 6 = h 164 6 := hf _ _ (by decide)
  have hk : ac_Jm (am_up (am_up (am_up h 164 7 (h' 164 7)) 164 8 (h' 164 8)) 164 9 (h' 164 9)) := by
    refine ⟨j1, j2, j3, j4, j5, j6, j7, j8, j9, j10, j11, ⟨n', s, e2, e3, e6⟩, ?_⟩
    obtain ⟨k, w, g1, g2, g3⟩ := e8
    exact ⟨k, w, g1, g2, g3⟩
  refine ac_Jm_fr (fun o k ho => ?_) hk
  by_cases h1 : o = 164
  · subst h1
    by_cases h7 : k = 7
    · subst h7; rfl
    · by_cases h8 : k = 8
      · subst h8; rfl
      · by_cases h9 : k = 9
        · subst h9; rfl
        · rw [am_up_same _ _ _ _ _ h9, am_up_same _ _ _ _ _ h8, am_up_same _ _ _ _ _ h7]
          by_cases h10 : k = 10
          · subst h10; cases ho
          · refine hf _ _ ?_
            unfold ab_in
            simp only [List.any_cons, List.any_nil, Bool.or_false]
            have hb : ∀ a, ¬ k = a → Nat.beq (a + 1) (k + 1) = false := fun a ha => by
              cases hq : Nat.beq (a + 1) (k + 1) with
              | false => rfl
              | true => exact absurd (Nat.eq_of_beq_eq_true hq) (by omega)
            rw [hb 7 h7, hb 8 h8, hb 9 h9, hb 10 h10]
            rfl
  · rw [cc o k h1, am_up_other _ _ _ _ _ h1, am_up_other _ _ _ _ _ h1, am_up_other _ _ _ _ _ h1]
theorem ac_JX_tk {X : am_H → Prop} (hX : ac_XF X) : ∀ h h', ac_tk h h' → ac_JX X h → ac_JX X h' := fun h h' ht hj => ⟨ac_Jm_tk ht hj.1, hX.1 h h' ht hj.2⟩
theorem ac_JX_gr {X : am_H → Prop} (hX : ac_XF X) : ab_Jgr (ac_JX X) := by
  refine ⟨fun h q k a b hj h1 h2 h3 => ?_, ac_JX_fr hX rfl⟩
  obtain ⟨⟨j1, j2, j3, j4, j5, j6, j7, j8, j9, j10, j11, j12, j13⟩, hx⟩ := hj
  exact ⟨⟨j1, ab_M2_put j2 h1 h2 h3, j3, j4, j5, j6, j7, j8, j9, j10, j11, j12, j13⟩, ac_X_up hX (by decide) (fun e => absurd e (by decide)) (ac_X_up hX (by decide) (fun e => absurd e (by decide)) (ac_X_up hX (by decide) (fun e => absurd e (by decide)) hx))⟩
theorem ac_JX_JP {X : am_H → Prop} (hX : ac_XF X) : ac_JP (ac_JX X) :=
  ⟨fun h hj => ⟨hj.1.1, hj.1.2.2.2.2.2.2.2.2.2.2.2.1, hj.1.2.2.2.2.2.2.2.2.2.2.2.2⟩, ac_JX_tk hX, ac_JX_fr hX rfl, ac_JX_gr hX⟩
/-- a contract by a theorem -/
theorem ac_con1 {J : am_H → Prop} {s : ab_Sm} {M : am_M} (hM : am_prog[s.1]? = some M) (hz : M.2.2.1.2.2 = (0, 0)) (h1 : s.2.1 = [ab_rf [164]]) (h : ∀ h : am_H, ab_Inv (ab_hi ab_tab) h → J h → ab_gPl h s.2.2.1 → am_Ek false am_G0 M 0 (lv_args 0 [.ref 164]) [] am_ks0 h 0 0 (fun r ks h' => ks = am_ks0 ∧ ab_Inv (ab_hi ab_tab) h' ∧ J h' ∧ ab_Fr s.2.2.2.1 h h' ∧ ∃ c ∈ s.2.2.2.2, ab_gC c [.ref 164] r h')) : ab_Con ab_tab J s := by
  refine ⟨M, hM, hz, fun as h0 hg hI hj hp => ?_⟩
  rw [h1] at hg
  match as, hg with
  | [v], hg =>
    obtain ⟨n, rfl, hn⟩ := hg.1
    have e := List.mem_singleton.mp hn
    subst e
    exact h h0 hI hj hp
