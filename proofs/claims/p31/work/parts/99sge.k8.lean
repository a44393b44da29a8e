/-! ===== THE STATE ALIKE IN BOTH, ON (wip/r/gen99sg.py) ===== -/
def PV (h : am_H) : Prop := ∀ p, h 0 2 = .ref p → pv p h
def R8 (h : am_H) : Prop := R7 h ∧ PV h ∧ St 1 h h
def cqB (q : Nat × Nat) : Bool := !((Nat.ble 48 q.1 && Nat.ble q.1 51) || (Nat.ble 56 q.1 && Nat.ble q.1 59) || (Nat.ble 62 q.1 && Nat.ble q.1 141) || (Nat.beq q.1 0 && (Nat.beq q.2 0 || Nat.beq q.2 9)) || (Nat.beq q.1 60 && (Nat.beq q.2 0 || Nat.beq q.2 2 || Nat.beq q.2 3)))
def m2B (q : Nat × Nat) : Bool := !((Nat.beq q.1 164 && (Nat.beq q.2 0 || Nat.beq q.2 58 || Nat.beq q.2 78 || Nat.beq q.2 80)) || Nat.beq q.1 200 || Nat.beq q.1 201)
def m3B (q : Nat × Nat) : Bool := !((Nat.beq q.1 164 && (Nat.beq q.2 0 || Nat.beq q.2 78 || Nat.beq q.2 80)) || Nat.beq q.1 200 || Nat.beq q.1 201)
def m1B (q : Nat × Nat) : Bool := !((Nat.ble 188 q.1 && Nat.ble q.1 194) && Nat.ble q.2 4)
theorem in_of {md : List (Nat × Nat)} {o k : Nat} {f : Nat × Nat → Bool} (hb_z : md.all f = true) (h0_z : f (o, 0) = false) (h1_z : f (o, k + 1) = false) : ab_in md o k = false := by
  cases q : ab_in md o k with
  | false => rfl
  | true =>
    obtain ⟨⟨a, b⟩, hw_z, hq_z⟩ := List.any_eq_true.mp q
    rw [Bool.and_eq_true, Bool.or_eq_true] at hq_z
    have e1_z := Nat.eq_of_beq_eq_true hq_z.1
    have e2_z := List.all_eq_true.mp hb_z _ hw_z
    dsimp only at e1_z
    subst e1_z
    rcases hq_z.2 with z | z
    · have := Nat.eq_of_beq_eq_true z
      dsimp only at this
      subst this
      rw [h0_z] at e2_z
      cases e2_z
    · have := Nat.eq_of_beq_eq_true z
      dsimp only at this
      subst this
      rw [h1_z] at e2_z
      cases e2_z
theorem ble_t {a b : Nat} (h : a ≤ b) : Nat.ble a b = true := Nat.ble_eq_true_of_le h
theorem cq_in {md : List (Nat × Nat)} {o k : Nat} (hb_z : md.all cqB = true) (h : cQ o k) : ab_in md o k = false := by
  refine in_of hb_z ?_ ?_
  · unfold cQ at h
    unfold cqB
    dsimp only
    rcases h with ⟨a, b⟩ | ⟨a, b⟩ | ⟨rfl, rfl⟩ | ⟨rfl, rfl | rfl⟩ | ⟨a, b⟩
    · rw [ble_t a, ble_t b]; rfl
    · rw [ble_t a, ble_t b]; simp
    · rfl
    · rfl
    · rfl
    · rw [ble_t a, ble_t b]; simp
  · unfold cQ at h
    unfold cqB
    dsimp only
    rcases h with ⟨a, b⟩ | ⟨a, b⟩ | ⟨rfl, rfl⟩ | ⟨rfl, rfl | rfl⟩ | ⟨a, b⟩
    · rw [ble_t a, ble_t b]; rfl
    · rw [ble_t a, ble_t b]; simp
    · rfl
    · rfl
    · rfl
    · rw [ble_t a, ble_t b]; simp
/-- the rows of undo, the image, what is told of them -/
def mR (o q : Nat) : Prop := (o = 164 ∧ (q = 77 ∨ q = 79)) ∨ o = 200 ∨ o = 201
theorem m3_in {md : List (Nat × Nat)} {o q : Nat} (hb_z : md.all m3B = true) (h : mR o q) : ab_in md o q = false := by
  refine in_of hb_z ?_ ?_
  · rcases h with ⟨rfl, rfl | rfl⟩ | rfl | rfl <;> rfl
  · rcases h with ⟨rfl, rfl | rfl⟩ | rfl | rfl <;> rfl
theorem m2_in {md : List (Nat × Nat)} {o q : Nat} (hb_z : md.all m2B = true) (h : mR o q ∨ (o = 164 ∧ q = 57)) : ab_in md o q = false := by
  refine in_of hb_z ?_ ?_
  · rcases h with (⟨rfl, rfl | rfl⟩ | rfl | rfl) | ⟨rfl, rfl⟩ <;> rfl
  · rcases h with (⟨rfl, rfl | rfl⟩ | rfl | rfl) | ⟨rfl, rfl⟩ <;> rfl
theorem m1_in {md : List (Nat × Nat)} {o q : Nat} (hb_z : md.all m1B = true) (h : (188 ≤ o ∧ o ≤ 194) ∧ q < 4) : ab_in md o q = false := by
  refine in_of hb_z ?_ ?_
  · unfold m1B
    dsimp only
    rw [ble_t h.1.1, ble_t h.1.2]
    rfl
  · unfold m1B
    dsimp only
    rw [ble_t h.1.1, ble_t h.1.2, ble_t (show q + 1 ≤ 4 by omega)]
    rfl
theorem mq_in {md : List (Nat × Nat)} {o q : Nat} (h2_z : md.all m2B = true) (h1_z : md.all m1B = true) (h : mQ o q) : ab_in md o q = false := by
  unfold mQ at h
  rcases h with ⟨a, b⟩ | h | h | ⟨a, b, c⟩ | ⟨a, b⟩ | ⟨a, b, c⟩
  · refine m2_in h2_z ?_
    unfold mR
    omega
  · exact m2_in h2_z (by unfold mR; omega)
  · exact m2_in h2_z (by unfold mR; omega)
  · exact m1_in h1_z (by omega)
  · exact m1_in h1_z (by omega)
  · exact m1_in h1_z (by omega)
def okC (md : List (Nat × Nat)) : Bool := md.all cqB && (md.all m2B && md.all m1B)
theorem St_c {md : List (Nat × Nat)} {h h' : am_H} (hb_z : okC md = true) (f : ab_Fr md h h') (S : St 1 h h) : St 1 h' h' := by
  unfold okC at hb_z
  simp only [Bool.and_eq_true] at hb_z
  exact St_e (by decide) (fun o k q => rg_v_fr f (cq_in hb_z.1 q)) (fun o q e => rg_v_fr f (mq_in hb_z.2.1 hb_z.2.2 e)) S
/-- a trial of the model -/
theorem St_m {md : List (Nat × Nat)} {h h' : am_H} (hb_z : (md.all cqB && md.all m3B) = true) (f : ab_Fr md h h') (b : bk h h') (e : rg_v h' 164 57 = rg_v h 164 57) (S : St 1 h h) : St 1 h' h' := by
  simp only [Bool.and_eq_true] at hb_z
  refine St_e (by decide) (fun o k q => rg_v_fr f (cq_in hb_z.1 q)) (fun o q m => ?_) S
  unfold mQ at m
  rcases m with ⟨rfl, rfl | rfl | rfl⟩ | m | m | ⟨a, c, rfl⟩ | ⟨rfl, rfl⟩ | ⟨a, c, d⟩
  · exact e
  · exact rg_v_fr f (m3_in hb_z.2 (by unfold mR; omega))
  · exact rg_v_fr f (m3_in hb_z.2 (by unfold mR; omega))
  · exact rg_v_fr f (m3_in hb_z.2 (by unfold mR; omega))
  · exact rg_v_fr f (m3_in hb_z.2 (by unfold mR; omega))
  · refine b o 0 ?_
    have h3_z : o = 188 ∨ o = 189 ∨ o = 190 := by omega
    rcases h3_z with rfl | rfl | rfl <;> rfl
  · exact b 194 0 rfl
  · refine b o q ?_
    have h3_z : o = 191 ∨ o = 192 ∨ o = 193 := by omega
    rcases h3_z with rfl | rfl | rfl
    · exact ble_t (show q ≤ 3 by omega)
    · exact ble_t (show q ≤ 3 by omega)
    · exact ble_t (show q ≤ 3 by omega)
theorem tk_G {t : Int32} {h : am_H} (hG : ag_G t h) : tkm h := by
  refine ⟨fun q hq_z => ?_, ?_⟩
  · have z := hG.1 171 q (.inr (.int, 16)) (by decide +kernel) (show q < 16 from hq_z)
    rw [show ab_hi ab_tab 171 q = ab_i 0 3 from rfl] at z
    obtain ⟨x, e, x0_z, x1_z⟩ := z
    unfold rg_v
    rw [e]
    exact x0_z
  · have z := hG.1 164 12 (.inl 12) (by decide +kernel) (by decide)
    rw [show ab_hi ab_tab 164 12 = ab_i 0 4 from rfl] at z
    obtain ⟨x, e, x0_z, x1_z⟩ := z
    unfold rg_v
    rw [e]
    exact ⟨x0_z, x1_z⟩
theorem pQ_z {p o k : Nat} (h : pQ p o k) : zcB p o = false ∧ ¬ (o = p ∧ k = 18) := by
  have h2_z : (o = p ∧ ¬ k = 18) ∨ (p + 2 ≤ o ∧ o ≤ p + 8) ∨ (p + 17 ≤ o ∧ o ≤ p + 20) := h
  refine ⟨?_, by omega⟩
  obtain ⟨i, rfl⟩ : ∃ i, o = p + i := ⟨o - p, by omega⟩
  exact zcB_i (by omega)
theorem pv_z {p : Nat} {h h' : am_H} (z : zC p h h') (V : pv p h) : pv p h' := pv_e (fun o k q => z o k (pQ_z q).1 (pQ_z q).2) V
def okV (md : List (Nat × Nat)) : Bool := !(ab_in md 0 2) && md.all (fun q => zcB 2 q.1) && md.all (fun q => zcB 23 q.1)
theorem PV_c {md : List (Nat × Nat)} {h h' : am_H} (hb_z : okV md = true) (hf_z : ab_Fr md h h') (hD : tx_D h) (V : PV h) : PV h' := by
  unfold okV at hb_z
  simp only [Bool.and_eq_true, Bool.not_eq_true'] at hb_z
  obtain ⟨⟨b1_z, b2_z⟩, b3_z⟩ := hb_z
  intro p hp_z
  rw [hf_z 0 2 b1_z] at hp_z
  have v := V p hp_z
  rcases hD with ⟨-, e⟩ | ⟨-, e⟩
  · rw [e] at hp_z
    cases hp_z
    exact pv_z (zC_fr b3_z hf_z) v
  · rw [e] at hp_z
    cases hp_z
    exact pv_z (zC_fr b2_z hf_z) v
/-- the kept plan, the states of both, as a call begins -/
theorem R8_in {md : List (Nat × Nat)} {t : Int32} {h h1_z : am_H} (R : R8 h) (hG : ag_G t h) (hb_z : (md.all m2B && md.all m1B && md.all zmQ) = true) (f1_z : ab_Fr md h h1_z) : ∃ p, (p = 2 ∨ p = 23) ∧ h 0 2 = .ref p ∧ rK p h h1_z ∧ pv p h ∧ bt p h ∧ St 1 h h1_z ∧ (∀ b, b < 4 → (rg_v h (p + 17 + b) 3).toInt ≤ 20) := by
  simp only [Bool.and_eq_true] at hb_z
  obtain ⟨⟨b1_z, b2_z⟩, b3_z⟩ := hb_z
  have S : St 1 h h1_z := St_e (by decide) (fun _ _ _ => rfl) (fun o q e => rg_v_fr f1_z (mq_in b1_z b2_z e)) R.2.2
  have zm := zM_fr b3_z f1_z
  have T := ck_T hG
  rcases R.1.1.1.1.1.1 with ⟨-, e⟩ | ⟨-, e⟩
  · exact ⟨23, Or.inr rfl, e, rK_m zm (R.1.1.1.2 23 e), R.2.1 23 e, bt_23 hG, S, T.2⟩
  · exact ⟨2, Or.inl rfl, e, rK_m zm (R.1.1.1.2 2 e), R.2.1 2 e, bt_2 hG, S, T.1⟩
