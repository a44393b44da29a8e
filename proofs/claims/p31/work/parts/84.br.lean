/-! ===== THE MODEL'S breathes (wip/s/tpl/84.tpl) ===== -/
/-- what holds while one breathes: so many seconds are gone since the beginning -/
def ab_Bd (J : am_H → Prop) (md : List (Nat × Nat)) (h0 : am_H) (b : Int32) (D : Int) (h : am_H) : Prop :=
  ab_Inv (ab_hi ab_tab) h ∧ J h ∧ ab_Fr md h0 h ∧ h 164 2 = .int 0 ∧ h 164 63 = .int b ∧ ∃ s : Int32, h 189 1 = .int s ∧ (s - b).toInt = D
/-- a contract that leaves the seconds alone -/
def ab_calm (md : List (Nat × Nat)) (s : ab_Sm) : Bool := ab_mdle s.2.2.2.1 md && ab_no 189 s.2.2.2.1 && !ab_in s.2.2.2.1 164 63 && !ab_in s.2.2.2.1 164 2 && ab_leP [((165, 2), ab_i 0 0)] s.2.2.1
section ABBR
variable {J : am_H → Prop} {md : List (Nat × Nat)} {h0 : am_H} {b : Int32}
theorem ab_Bd_pre {s : ab_Sm} (hc : ab_calm md s = true) {D : Int} {h : am_H} (hB : ab_Bd J md h0 b D h) : ab_gPl h s.2.2.1 := by
  unfold ab_calm at hc
  rw [Bool.and_eq_true] at hc
  refine ab_leP_ok (ls := []) hc.2 (fun q hq => ?_)
  have e := List.mem_singleton.mp hq
  subst e
  exact ⟨.int 0, congrArg some hB.2.2.2.1, ab_i_ok (by decide) (by decide)⟩
theorem ab_Bd_call {s : ab_Sm} (hc : ab_calm md s = true) {D : Int} {h h' : am_H} (hB : ab_Bd J md h0 b D h) (hI : ab_Inv (ab_hi ab_tab) h') (hJ : J h') (hf : ab_Fr s.2.2.2.1 h h') : ab_Bd J md h0 b D h' := by
  unfold ab_calm at hc
  simp only [Bool.and_eq_true, Bool.not_eq_true'] at hc
  obtain ⟨⟨⟨⟨c1, c2⟩, c3⟩, c4⟩, -⟩ := hc
  obtain ⟨-, -, h3, h4, h5, s', h6, h7⟩ := hB
  exact ⟨hI, hJ, ab_Fr_trans h3 (ab_mdle_Fr c1 hf), by rw [hf 164 2 c4]; exact h4, by rw [hf 164 63 c3]; exact h5, s', by rw [ab_no_ok c2 hf]; exact h6, h7⟩
/-- a tick -/
theorem ab_Bd_tick {sfn : ab_Sm} (hfn : ab_Con ab_tab J sfn) (e1 : sfn.1 = 200) (e2 : sfn.2.1 = [(4, 0, 0, [164]), ab_i 0 3, ab_i 0 1, ab_i 0 1]) (e4 : sfn.2.2.2.2.all (fun c => match c.1 with | some V => Nat.beq V.1 0 | none => false) = true) (hc : ab_calm md sfn = true) (hm : ab_mdle [(188, 0), (189, 2)] md = true)
    (hJs : ∀ h h', ab_Fr [(188, 0), (189, 0)] h h' → J h → J h') {h : am_H} {o : Int32} {D : Int} (hB : ab_Bd J md h0 b D h) (o0 : 0 ≤ o.toInt) (o1 : o.toInt ≤ 1) (d0 : 0 ≤ D) (d1 : D < 3600) :
    am_Ek false am_G0 am_m216 0 (lv_args 0 [.ref 164, .int o]) [] am_ks0 h 0 0 (fun r ks h' => ks = am_ks0 ∧ ab_Bd J md h0 b (D + 1) h' ∧ ((r = some (.int 1) ∧ D + 1 < 3600) ∨ (r = some (.int 0) ∧ D + 1 = 3600))) := by
  have hp := ab_Bd_pre hc hB
  unfold ab_calm at hc
  simp only [Bool.and_eq_true, Bool.not_eq_true'] at hc
  obtain ⟨⟨⟨⟨c1, c2⟩, c3⟩, c4⟩, -⟩ := hc
  obtain ⟨hI, hJ, h3, h4, h5, s', h6, h7⟩ := hB
  refine am_Ev_mono (ab_ticks hfn e1 e2 c2 e4 c3 hJs hI hJ hp o0 o1 h6 h5 (by omega) (by omega)) (fun r ks h' hq => ?_)
  obtain ⟨rfl, g1, g2, g3, g4, g5, g6, g7⟩ := hq
  have hF : ab_Fr md h h' := by
    intro a c hac
    refine g3 a c ?_
    unfold ab_in
    rw [List.any_append, Bool.or_eq_false_iff]
    constructor
    · cases hi : ab_in sfn.2.2.2.1 a c with
      | false => exact hi
      | true => rw [ab_mdle_in c1 hi] at hac; cases hac
    · cases hi : ab_in [(188, 0), (189, 2)] a c with
      | false => exact hi
      | true => rw [ab_mdle_in hm hi] at hac; cases hac
  refine ⟨rfl, ⟨g1, g2, ab_Fr_trans h3 hF, ?_, g5, _, g4, by omega⟩, ?_⟩
  · rw [g3 164 2 ?_]
    · exact h4
    · unfold ab_in at c4 ⊢
      rw [List.any_append, c4]
      decide
  · rw [h7] at g7
    exact g7
theorem ab_has {h : am_H} (hI : ab_Inv (ab_hi ab_tab) h) {q : Nat} (hq : q < 56) : ∃ v : Int32, h 170 q = .int v ∧ 0 ≤ v.toInt ∧ v.toInt ≤ 99 := by
  have g := hI 170 q _ (show am_ks0[170]? = some (.inr (.int, 56)) by decide +kernel) hq
  rw [ab_hi_arr (show ab_isA ab_tab 170 = true by decide +kernel), show ab_hi ab_tab 170 0 = ab_i 0 99 by decide +kernel] at g
  obtain ⟨v, ev, v0, v1⟩ := g
  exact ⟨v, ev, v0, v1⟩
theorem ab_m7 {k c : Int32} (k0 : 0 ≤ k.toInt) (k1 : k.toInt ≤ 3) (c0 : 0 ≤ c.toInt) (c1 : c.toInt ≤ 6) : ((7 : Int32) * k + c).toInt = 7 * k.toInt + c.toInt := by
  have e : ((7 : Int32) * k).toInt = 7 * k.toInt := by
    rw [Int32.toInt_mul, show (7 : Int32).toInt = 7 by decide]
    exact ab_bm (by omega) (by omega)
  rw [ab_iadd (by omega) (by omega), e]
end ABBR
