/-! ===== RANKS: what falls with each instruction ===== -/
/-- weight, bound, sign, the place that counts: weight * (bound - sign * number) -/
abbrev ab_Lp : Type := Int × Int × Int × ab_P
def ab_lv (ls : am_L) (h : am_H) (L : ab_Lp) : Int := match ab_at ls h L.2.2.2 with
  | some (.int y) => L.1 * (L.2.1 - L.2.2.1 * y.toInt)
  | _ => 0
def ab_lvs (ls : am_L) (h : am_H) : List ab_Lp → Int
  | [] => 0
  | L :: r => ab_lv ls h L + ab_lvs ls h r
/-- what is known of the number at a place -/
def ab_ctr (T : ab_T) (F : ab_F) (p : ab_P) : Option ab_V := match p.1 with
  | 0 => ab_loc F.1 p.2
  | o + 1 => match am_ks0[o]? with
    | some kd => cond (Nat.blt p.2 (ab_sz kd)) (some (ab_hp T F o p.2)) none
    | none => none
theorem ab_ctr_ok {T : ab_T} {F : ab_F} {p : ab_P} {V : ab_V} {ls : am_L} {st : List Value} {h : am_H} (hI : ab_Inv (ab_hi T) h) (hF : ab_gF F ls st h) (hp : ab_ctr T F p = some V) : ∃ v, ab_at ls h p = some v ∧ ab_g V v := by
  obtain ⟨a, k⟩ := p
  unfold ab_ctr at hp
  cases a with
  | zero =>
    obtain ⟨v, g1, g2⟩ := hF.1 _ (ab_loc_mem hp)
    exact ⟨v, g1, g2⟩
  | succ o =>
    dsimp only at hp
    split at hp
    · rename_i kd hkd
      cases hz : Nat.blt k (ab_sz kd) with
      | false => rw [hz] at hp; cases hp
      | true =>
        rw [hz] at hp
        cases hp
        exact ⟨_, rfl, ab_hp_ok hI hF.2.2 hkd (Nat.le_of_ble_eq_true hz)⟩
    · cases hp
/-- the most that it can be; none if it might be below 0 -/
def ab_lpm (T : ab_T) (F : ab_F) (L : ab_Lp) : Option Int := match ab_ctr T F L.2.2.2 with
  | some V => cond (Nat.beq V.1 0 && decide (0 ≤ L.1)) (cond (decide (L.2.2.1 = 1) && decide (V.2.2.1 ≤ L.2.1)) (some (L.1 * (L.2.1 - V.2.1)))
      (cond (decide (L.2.2.1 = -1) && decide (- V.2.1 ≤ L.2.1)) (some (L.1 * (L.2.1 + V.2.2.1))) none)) none
  | none => none
theorem ab_lpm_ok {T : ab_T} {F : ab_F} {L : ab_Lp} {b : Int} {ls : am_L} {st : List Value} {h : am_H} (hI : ab_Inv (ab_hi T) h) (hF : ab_gF F ls st h) (hl : ab_lpm T F L = some b) : ∃ y : Int32, ab_at ls h L.2.2.2 = some (.int y) ∧ 0 ≤ ab_lv ls h L ∧ ab_lv ls h L ≤ b := by
  unfold ab_lpm at hl
  split at hl
  · rename_i V hV
    obtain ⟨v, g1, g2⟩ := ab_ctr_ok hI hF hV
    cases hb : (Nat.beq V.1 0 && decide (0 ≤ L.1)) with
    | false => rw [hb] at hl; cases hl
    | true =>
      rw [hb, cond_true] at hl
      rw [Bool.and_eq_true] at hb
      obtain ⟨y, rfl, l1, u1⟩ := ab_gI hb.1 g2
      have h0 := of_decide_eq_true hb.2
      have hv : ab_lv ls h L = L.1 * (L.2.1 - L.2.2.1 * y.toInt) := by
        unfold ab_lv
        rw [g1]
      rw [hv]
      refine ⟨y, g1, ?_⟩
      cases hc : (decide (L.2.2.1 = 1) && decide (V.2.2.1 ≤ L.2.1)) with
      | true =>
        rw [hc, cond_true] at hl
        simp only [Bool.and_eq_true, decide_eq_true_eq] at hc
        cases hl
        rw [hc.1, Int.one_mul]
        exact ⟨Int.mul_nonneg h0 (by omega), Int.mul_le_mul_of_nonneg_left (by omega) h0⟩
      | false =>
        rw [hc, cond_false] at hl
        cases hd : (decide (L.2.2.1 = -1) && decide (- V.2.1 ≤ L.2.1)) with
        | false => rw [hd] at hl; cases hl
        | true =>
          rw [hd, cond_true] at hl
          simp only [Bool.and_eq_true, decide_eq_true_eq] at hd
          cases hl
          rw [hd.1]
          exact ⟨Int.mul_nonneg h0 (by omega), Int.mul_le_mul_of_nonneg_left (by omega) h0⟩
  · cases hl
/-- the most of all of them -/
def ab_lpms (T : ab_T) (F : ab_F) : List ab_Lp → Option Int
  | [] => some 0
  | L :: r => match ab_lpm T F L, ab_lpms T F r with
    | some a, some b => some (a + b)
    | _, _ => none
theorem ab_lpms_ok {T : ab_T} {F : ab_F} {ls : am_L} {st : List Value} {h : am_H} (hI : ab_Inv (ab_hi T) h) (hF : ab_gF F ls st h) : ∀ {Ls : List ab_Lp} {b : Int}, ab_lpms T F Ls = some b → 0 ≤ ab_lvs ls h Ls ∧ ab_lvs ls h Ls ≤ b
  | [], b, hl => by
    have : (0 : Int) = b := Option.some.inj hl
    subst this
    exact ⟨Int.le_refl _, Int.le_refl _⟩
  | L :: r, b, hl => by
    unfold ab_lpms at hl
    split at hl
    · rename_i x y hx hy
      cases hl
      obtain ⟨-, -, q1, q2⟩ := ab_lpm_ok hI hF hx
      obtain ⟨q3, q4⟩ := ab_lpms_ok hI hF hy
      exact ⟨Int.add_nonneg q1 q3, Int.add_le_add q2 q4⟩
    · cases hl
theorem ab_lvs_app {ls : am_L} {h : am_H} : ∀ {A B : List ab_Lp}, ab_lvs ls h (A ++ B) = ab_lvs ls h A + ab_lvs ls h B
  | [], B => by simp [ab_lvs]
  | L :: A, B => by
    show ab_lv ls h L + ab_lvs ls h (A ++ B) = ab_lv ls h L + ab_lvs ls h A + ab_lvs ls h B
    rw [ab_lvs_app]
    omega
theorem ab_lpms_app {T : ab_T} {F : ab_F} : ∀ {A B : List ab_Lp} {b : Int}, ab_lpms T F (A ++ B) = some b → ∃ x y, ab_lpms T F A = some x ∧ ab_lpms T F B = some y
  | [], B, b, hl => ⟨0, b, rfl, hl⟩
  | L :: A, B, b, hl => by
    replace hl : (match ab_lpm T F L, ab_lpms T F (A ++ B) with
      | some a, some b => some (a + b)
      | _, _ => none) = some b := hl
    split at hl
    · rename_i x y hx hy
      obtain ⟨x', y', e1, e2⟩ := ab_lpms_app hy
      refine ⟨x + x', y', ?_, e2⟩
      show (match ab_lpm T F L, ab_lpms T F A with
        | some a, some b => some (a + b)
        | _, _ => none) = _
      rw [hx, e1]
    · cases hl
/-- by how much those that stay change -/
def ab_dls (E : ab_E) : List ab_Lp → Option Int
  | [] => some 0
  | L :: r => match ab_dl E L.2.2.2, ab_dls E r with
    | some d, some b => some (b - L.1 * (L.2.2.1 * d))
    | _, _ => none
theorem ab_dls_ok {T : ab_T} {F : ab_F} {E : ab_E} {ls ls' : am_L} {st : List Value} {h h' : am_H} (hI : ab_Inv (ab_hi T) h) (hF : ab_gF F ls st h) (hE : ab_Eff E ls h ls' h') : ∀ {Ls : List ab_Lp} {b d : Int}, ab_lpms T F Ls = some b → ab_dls E Ls = some d → ab_lvs ls' h' Ls = ab_lvs ls h Ls + d
  | [], b, d, _, hd => by
    have : (0 : Int) = d := Option.some.inj hd
    subst this
    rfl
  | L :: r, b, d, hl, hd => by
    unfold ab_lpms at hl
    unfold ab_dls at hd
    split at hl
    · rename_i x y hx hy
      split at hd
      · rename_i d1 d2 hd1 hd2
        cases hd
        obtain ⟨w, g1, -⟩ := ab_lpm_ok hI hF hx
        obtain ⟨w', g2, g3⟩ := hE _ _ _ hd1 g1
        have ih := ab_dls_ok hI hF hE hy hd2
        show ab_lv ls' h' L + ab_lvs ls' h' r = ab_lv ls h L + ab_lvs ls h r + (d2 - L.1 * (L.2.2.1 * d1))
        rw [ih]
        unfold ab_lv
        rw [g1, g2]
        dsimp only
        have key : L.1 * (L.2.1 - L.2.2.1 * w'.toInt) = L.1 * (L.2.1 - L.2.2.1 * w.toInt) - L.1 * (L.2.2.1 * d1) := by
          rw [g3, Int.mul_add, ← Int.mul_sub]
          congr 1
          omega
        rw [key]
        omega
      · cases hd
    · cases hl
def ab_eqLp (L W : ab_Lp) : Bool := decide (L.1 = W.1) && decide (L.2.1 = W.2.1) && decide (L.2.2.1 = W.2.2.1) && Nat.beq L.2.2.2.1 W.2.2.2.1 && Nat.beq L.2.2.2.2 W.2.2.2.2
def ab_eqLs : List ab_Lp → List ab_Lp → Bool
  | [], [] => true
  | L :: r, W :: s => ab_eqLp L W && ab_eqLs r s
  | _, _ => false
theorem ab_eqLs_ok : ∀ {A B : List ab_Lp}, ab_eqLs A B = true → A = B
  | [], [], _ => rfl
  | [], _ :: _, hl => by cases hl
  | _ :: _, [], hl => by cases hl
  | (a, b, c, d, e) :: r, (a', b', c', d', e') :: s, hl => by
    replace hl : (ab_eqLp (a, b, c, d, e) (a', b', c', d', e') && ab_eqLs r s) = true := hl
    unfold ab_eqLp at hl
    simp only [Bool.and_eq_true, decide_eq_true_eq] at hl
    obtain ⟨⟨⟨⟨⟨q1, q2⟩, q3⟩, q4⟩, q5⟩, q6⟩ := hl
    have q4 := Nat.eq_of_beq_eq_true q4
    have q5 := Nat.eq_of_beq_eq_true q5
    subst q1; subst q2; subst q3; subst q4; subst q5
    rw [ab_eqLs_ok q6]
/-- an edge: so many loops are left, so many begun; the rank falls -/
def ab_edge1 (T : ab_T) (a b : Nat) (c : Int) (Ls : List ab_Lp) (c' : Int) (Ls' : List ab_Lp) (F' : ab_F) (E : ab_E) : Bool :=
  ab_eqLs (Ls.drop a) (Ls'.drop b) && match ab_lpms T F' (Ls'.take b), ab_dls E (Ls.drop a) with
    | some x, some d => decide (c' + x + d < c)
    | _, _ => false
def ab_edge (T : ab_T) (c : Int) (Ls : List ab_Lp) (c' : Int) (Ls' : List ab_Lp) (F' : ab_F) (E : ab_E) : Bool :=
  ab_edge1 T (Ls.length - Ls'.length) (Ls'.length - Ls.length) c Ls c' Ls' F' E || ab_edge1 T (Ls.length - Ls'.length + 1) (Ls'.length - Ls.length + 1) c Ls c' Ls' F' E
theorem ab_edge1_ok {T : ab_T} {a b : Nat} {c c' : Int} {Ls Ls' : List ab_Lp} {F F' : ab_F} {E : ab_E} {ls ls' : am_L} {st st' : List Value} {h h' : am_H} {m : Int} (hI : ab_Inv (ab_hi T) h) (hF : ab_gF F ls st h) (hI' : ab_Inv (ab_hi T) h') (hF' : ab_gF F' ls' st' h') (hE : ab_Eff E ls h ls' h') (hm : ab_lpms T F Ls = some m) (he : ab_edge1 T a b c Ls c' Ls' F' E = true) : c' + ab_lvs ls' h' Ls' < c + ab_lvs ls h Ls := by
  unfold ab_edge1 at he
  rw [Bool.and_eq_true] at he
  have e1 := ab_eqLs_ok he.1
  have he := he.2
  split at he
  · rename_i x d hx hd
    have he := of_decide_eq_true he
    rw [← List.take_append_drop a Ls] at hm
    obtain ⟨m1, m2, hm1, hm2⟩ := ab_lpms_app hm
    have q1 := ab_lpms_ok hI hF hm1
    have q2 := ab_dls_ok hI hF hE hm2 hd
    have q3 := ab_lpms_ok hI' hF' hx
    have s1 : ab_lvs ls h Ls = ab_lvs ls h (Ls.take a) + ab_lvs ls h (Ls.drop a) := by rw [← ab_lvs_app, List.take_append_drop]
    have s2 : ab_lvs ls' h' Ls' = ab_lvs ls' h' (Ls'.take b) + ab_lvs ls' h' (Ls'.drop b) := by rw [← ab_lvs_app, List.take_append_drop]
    rw [← e1, q2] at s2
    omega
  · cases he
theorem ab_edge_ok {T : ab_T} {c c' : Int} {Ls Ls' : List ab_Lp} {F F' : ab_F} {E : ab_E} {ls ls' : am_L} {st st' : List Value} {h h' : am_H} {m : Int} (hI : ab_Inv (ab_hi T) h) (hF : ab_gF F ls st h) (hI' : ab_Inv (ab_hi T) h') (hF' : ab_gF F' ls' st' h') (hE : ab_Eff E ls h ls' h') (hm : ab_lpms T F Ls = some m) (he : ab_edge T c Ls c' Ls' F' E = true) : c' + ab_lvs ls' h' Ls' < c + ab_lvs ls h Ls := by
  unfold ab_edge at he
  rw [Bool.or_eq_true] at he
  rcases he with he | he
  · exact ab_edge1_ok hI hF hI' hF' hE hm he
  · exact ab_edge1_ok hI hF hI' hF' hE hm he
