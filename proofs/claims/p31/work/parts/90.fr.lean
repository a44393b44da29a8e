/-! ===== KNOTS STAY WELL WHEN ONE GROWS; FRAMES OF THE MODEL'S FACTS (wip/s/tpl/90.tpl) ===== -/
theorem ab_M2_put {h : am_H} {q : Nat} {k a b : Int32} (hm : ab_M2 h) (c1 : k = 1 → 0 ≤ a.toInt ∧ a.toInt ≤ 5) (c2 : 2 ≤ k.toInt → 0 ≤ a.toInt ∧ a.toInt ≤ 63) (c3 : 3 ≤ k.toInt → 0 ≤ b.toInt ∧ b.toInt ≤ 63) : ab_M2 (am_up (am_up (am_up h 181 q (.int k)) 182 q (.int a)) 183 q (.int b)) := by
  intro j hj x hx
  rw [am_up_other _ _ _ _ _ (by decide), am_up_other _ _ _ _ _ (by decide)] at hx
  by_cases hq : j = q
  · subst hq
    rw [am_up_self] at hx
    cases hx
    have e2 : am_up (am_up (am_up h 181 j (.int k)) 182 j (.int a)) 183 j (.int b) 182 j = .int a := by
      rw [am_up_other _ _ _ _ _ (by decide), am_up_self]
    have e3 : am_up (am_up (am_up h 181 j (.int k)) 182 j (.int a)) 183 j (.int b) 183 j = .int b := am_up_self _ _ _ _
    exact ⟨fun e => ⟨a, e2, c1 e⟩, fun e => ⟨a, e2, c2 e⟩, fun e => ⟨b, e3, c3 e⟩⟩
  · rw [am_up_same _ _ _ _ _ hq] at hx
    have e2 : am_up (am_up (am_up h 181 q (.int k)) 182 q (.int a)) 183 q (.int b) 182 j = h 182 j := by
      rw [am_up_other _ _ _ _ _ (by decide), am_up_same _ _ _ _ _ hq, am_up_other _ _ _ _ _ (by decide)]
    have e3 : am_up (am_up (am_up h 181 q (.int k)) 182 q (.int a)) 183 q (.int b) 183 j = h 183 j := by
      rw [am_up_same _ _ _ _ _ hq, am_up_other _ _ _ _ _ (by decide), am_up_other _ _ _ _ _ (by decide)]
    rw [e2, e3]
    exact hm j hj x hx
theorem ab_M1_fr {h h' : am_H} (e : ∀ k, h' 166 k = h 166 k) (hm : ab_M1 h) : ab_M1 h' := fun k hk => (e k).trans (hm k hk)
theorem ab_M2_fr {h h' : am_H} (e1 : ∀ k, h' 181 k = h 181 k) (e2 : ∀ k, h' 182 k = h 182 k) (e3 : ∀ k, h' 183 k = h 183 k) (hm : ab_M2 h) : ab_M2 h' := by
  intro k hk x hx
  rw [e1] at hx
  rw [e2, e3]
  exact hm k hk x hx
theorem ab_M3_fr {h h' : am_H} (e1 : ∀ k, h' 178 k = h 178 k) (e2 : ∀ k, h' 180 k = h 180 k) (hm : ab_M3 h) : ab_M3 h' := by
  intro k hk x
  rw [e1] at x
  rw [e2]
  exact hm k hk x
theorem ab_M4_fr {h h' : am_H} (e1 : h' 164 14 = h 164 14) (e2 : h' 173 0 = h 173 0) (hm : ab_M4 h) : ab_M4 h' := by
  intro l hl h1
  rw [e1] at hl
  rw [e2]
  exact hm l hl h1
theorem ab_M6_fr {h h' : am_H} (e : ∀ k, h' 198 k = h 198 k) (hm : ab_M6 h) : ab_M6 h' := by
  intro i hi
  rw [e, e]
  exact hm i hi
