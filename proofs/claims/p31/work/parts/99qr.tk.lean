/-! ===== A TOKEN, case by case (wip/r/gen99qr.py) ===== -/
theorem tk_cases {a b c d : Int32} (h : tk a b c d) : (a = 0 ∧ c = 0) ∨ (a = 1 ∧ c = 6) ∨ (a = 1 ∧ c = 4 ∧ d = 37) ∨ (a = 2 ∧ c = 1 ∧ 0 ≤ b.toInt ∧ b.toInt ≤ 10 ∧ d = b) ∨ (a = 2 ∧ c = 1 ∧ b = 11 ∧ d = 11) ∨ (a = 2 ∧ c = 1 ∧ b = 12 ∧ d = 15) ∨ (a = 2 ∧ c = 1 ∧ b = 13 ∧ d = 16) ∨ (a = 2 ∧ c = 1 ∧ b = 14 ∧ d = 17) ∨ (a = 2 ∧ c = 1 ∧ b = 15 ∧ d = 18) ∨ (a = 2 ∧ c = 1 ∧ b = 16 ∧ d = 19) ∨ (a = 3 ∧ c = 2 ∧ d = b) ∨ (a = 4 ∧ c = 3 ∧ 0 ≤ b.toInt ∧ 0 ≤ d.toInt ∧ (b.toInt = d.toInt ∨ (99999 < b.toInt ∧ 99999 < d.toInt))) ∨ (a = 5 ∧ c = 4 ∧ b = 59 ∧ d = 59) ∨ (a = 5 ∧ c = 4 ∧ b = 40 ∧ d = 40) ∨ (a = 5 ∧ c = 4 ∧ b = 41 ∧ d = 41) ∨ (a = 6 ∧ c = 1 ∧ b = 3 ∧ d = 13) ∨ (a = 6 ∧ c = 1 ∧ b = 4 ∧ d = 12) ∨ (a = 6 ∧ c = 1 ∧ b = 5 ∧ d = 14) ∨ (a = 6 ∧ c = 5 ∧ b = 6 ∧ d = 0) ∨ (a = 6 ∧ c = 5 ∧ b = 7 ∧ d = 1) ∨ (a = 6 ∧ c = 5 ∧ b = 8 ∧ d = 2) ∨ (a = 6 ∧ c = 5 ∧ b = 9 ∧ d = 3) ∨ (a = 6 ∧ c = 5 ∧ b = 10 ∧ d = 4) ∨ (a = 6 ∧ c = 5 ∧ b = 11 ∧ d = 5) ∨ (a = 6 ∧ c = 4 ∧ b = 12 ∧ d = 43) ∨ (a = 6 ∧ c = 4 ∧ b = 13 ∧ d = 45) ∨ (a = 6 ∧ c = 4 ∧ b = 14 ∧ d = 42) ∨ (a = 6 ∧ c = 4 ∧ b = 15 ∧ d = 47) := by
  rcases h with ⟨e1_z, e2_z⟩ | ⟨e1_z, e2_z⟩ | ⟨k, hk_z, e1_z, e2_z, e3_z, e4_z⟩ | ⟨e1_z, e2_z, e3_z⟩ | ⟨e1_z, e2_z, e3_z, e4_z, e5_z⟩ | ⟨e1_z, e2_z, e3_z, e4_z⟩ | ⟨e1_z, e2_z⟩
  · exact Or.inl ⟨e1_z, e2_z⟩
  · rcases e2_z with e2_z | ⟨e2_z, e3_z⟩
    · exact Or.inr (Or.inl ⟨e1_z, e2_z⟩)
    · exact Or.inr (Or.inr (Or.inl ⟨e1_z, e2_z, e3_z⟩))
  · by_cases h10_z : k ≤ 10
    · have z := Int32.toInt_ofNat_of_lt (n := k) (by omega)
      have e5_z : rt_pm k = k := if_pos (by omega)
      rw [e5_z] at e4_z
      exact Or.inr (Or.inr (Or.inr (Or.inl ⟨e1_z, e2_z, by rw [e3_z, z]; omega, by rw [e3_z, z]; omega, e4_z.trans e3_z.symm⟩)))
    · have h6_z : k = 11 ∨ k = 12 ∨ k = 13 ∨ k = 14 ∨ k = 15 ∨ k = 16 := by omega
      rcases h6_z with rfl | rfl | rfl | rfl | rfl | rfl
      · exact Or.inr (Or.inr (Or.inr (Or.inr (Or.inl ⟨e1_z, e2_z, e3_z.trans (by decide), e4_z.trans (by decide)⟩))))
      · exact Or.inr (Or.inr (Or.inr (Or.inr (Or.inr (Or.inl ⟨e1_z, e2_z, e3_z.trans (by decide), e4_z.trans (by decide)⟩)))))
      · exact Or.inr (Or.inr (Or.inr (Or.inr (Or.inr (Or.inr (Or.inl ⟨e1_z, e2_z, e3_z.trans (by decide), e4_z.trans (by decide)⟩))))))
      · exact Or.inr (Or.inr (Or.inr (Or.inr (Or.inr (Or.inr (Or.inr (Or.inl ⟨e1_z, e2_z, e3_z.trans (by decide), e4_z.trans (by decide)⟩)))))))
      · exact Or.inr (Or.inr (Or.inr (Or.inr (Or.inr (Or.inr (Or.inr (Or.inr (Or.inl ⟨e1_z, e2_z, e3_z.trans (by decide), e4_z.trans (by decide)⟩))))))))
      · exact Or.inr (Or.inr (Or.inr (Or.inr (Or.inr (Or.inr (Or.inr (Or.inr (Or.inr (Or.inl ⟨e1_z, e2_z, e3_z.trans (by decide), e4_z.trans (by decide)⟩)))))))))
  · exact Or.inr (Or.inr (Or.inr (Or.inr (Or.inr (Or.inr (Or.inr (Or.inr (Or.inr (Or.inr (Or.inl ⟨e1_z, e2_z, e3_z.symm⟩))))))))))
  · exact Or.inr (Or.inr (Or.inr (Or.inr (Or.inr (Or.inr (Or.inr (Or.inr (Or.inr (Or.inr (Or.inr (Or.inl ⟨e1_z, e2_z, e3_z, e4_z, e5_z.elim (fun q => Or.inl (by rw [q])) Or.inr⟩)))))))))))
  · rcases e4_z with e4_z | e4_z | e4_z
    · exact Or.inr (Or.inr (Or.inr (Or.inr (Or.inr (Or.inr (Or.inr (Or.inr (Or.inr (Or.inr (Or.inr (Or.inr (Or.inl ⟨e1_z, e2_z, e4_z, e3_z.symm.trans e4_z⟩))))))))))))
    · exact Or.inr (Or.inr (Or.inr (Or.inr (Or.inr (Or.inr (Or.inr (Or.inr (Or.inr (Or.inr (Or.inr (Or.inr (Or.inr (Or.inl ⟨e1_z, e2_z, e4_z, e3_z.symm.trans e4_z⟩)))))))))))))
    · exact Or.inr (Or.inr (Or.inr (Or.inr (Or.inr (Or.inr (Or.inr (Or.inr (Or.inr (Or.inr (Or.inr (Or.inr (Or.inr (Or.inr (Or.inl ⟨e1_z, e2_z, e4_z, e3_z.symm.trans e4_z⟩))))))))))))))
  · rcases e2_z with ⟨e2_z, e3_z, e4_z⟩ | ⟨e2_z, e3_z, e4_z⟩ | ⟨e2_z, e3_z, e4_z⟩ | ⟨e2_z, e3_z, e4_z⟩ | ⟨e2_z, e3_z, e4_z⟩ | ⟨e2_z, e3_z, e4_z⟩ | ⟨e2_z, e3_z, e4_z⟩ | ⟨e2_z, e3_z, e4_z⟩ | ⟨e2_z, e3_z, e4_z⟩ | ⟨e2_z, e3_z, e4_z⟩ | ⟨e2_z, e3_z, e4_z⟩ | ⟨e2_z, e3_z, e4_z⟩ | ⟨e2_z, e3_z, e4_z⟩
    · exact Or.inr (Or.inr (Or.inr (Or.inr (Or.inr (Or.inr (Or.inr (Or.inr (Or.inr (Or.inr (Or.inr (Or.inr (Or.inr (Or.inr (Or.inr (Or.inl ⟨e1_z, e3_z, e2_z, e4_z⟩)))))))))))))))
    · exact Or.inr (Or.inr (Or.inr (Or.inr (Or.inr (Or.inr (Or.inr (Or.inr (Or.inr (Or.inr (Or.inr (Or.inr (Or.inr (Or.inr (Or.inr (Or.inr (Or.inl ⟨e1_z, e3_z, e2_z, e4_z⟩))))))))))))))))
    · exact Or.inr (Or.inr (Or.inr (Or.inr (Or.inr (Or.inr (Or.inr (Or.inr (Or.inr (Or.inr (Or.inr (Or.inr (Or.inr (Or.inr (Or.inr (Or.inr (Or.inr (Or.inl ⟨e1_z, e3_z, e2_z, e4_z⟩)))))))))))))))))
    · exact Or.inr (Or.inr (Or.inr (Or.inr (Or.inr (Or.inr (Or.inr (Or.inr (Or.inr (Or.inr (Or.inr (Or.inr (Or.inr (Or.inr (Or.inr (Or.inr (Or.inr (Or.inr (Or.inl ⟨e1_z, e3_z, e2_z, e4_z⟩))))))))))))))))))
    · exact Or.inr (Or.inr (Or.inr (Or.inr (Or.inr (Or.inr (Or.inr (Or.inr (Or.inr (Or.inr (Or.inr (Or.inr (Or.inr (Or.inr (Or.inr (Or.inr (Or.inr (Or.inr (Or.inr (Or.inl ⟨e1_z, e3_z, e2_z, e4_z⟩)))))))))))))))))))
    · exact Or.inr (Or.inr (Or.inr (Or.inr (Or.inr (Or.inr (Or.inr (Or.inr (Or.inr (Or.inr (Or.inr (Or.inr (Or.inr (Or.inr (Or.inr (Or.inr (Or.inr (Or.inr (Or.inr (Or.inr (Or.inl ⟨e1_z, e3_z, e2_z, e4_z⟩))))))))))))))))))))
    · exact Or.inr (Or.inr (Or.inr (Or.inr (Or.inr (Or.inr (Or.inr (Or.inr (Or.inr (Or.inr (Or.inr (Or.inr (Or.inr (Or.inr (Or.inr (Or.inr (Or.inr (Or.inr (Or.inr (Or.inr (Or.inr (Or.inl ⟨e1_z, e3_z, e2_z, e4_z⟩)))))))))))))))))))))
    · exact Or.inr (Or.inr (Or.inr (Or.inr (Or.inr (Or.inr (Or.inr (Or.inr (Or.inr (Or.inr (Or.inr (Or.inr (Or.inr (Or.inr (Or.inr (Or.inr (Or.inr (Or.inr (Or.inr (Or.inr (Or.inr (Or.inr (Or.inl ⟨e1_z, e3_z, e2_z, e4_z⟩))))))))))))))))))))))
    · exact Or.inr (Or.inr (Or.inr (Or.inr (Or.inr (Or.inr (Or.inr (Or.inr (Or.inr (Or.inr (Or.inr (Or.inr (Or.inr (Or.inr (Or.inr (Or.inr (Or.inr (Or.inr (Or.inr (Or.inr (Or.inr (Or.inr (Or.inr (Or.inl ⟨e1_z, e3_z, e2_z, e4_z⟩)))))))))))))))))))))))
    · exact Or.inr (Or.inr (Or.inr (Or.inr (Or.inr (Or.inr (Or.inr (Or.inr (Or.inr (Or.inr (Or.inr (Or.inr (Or.inr (Or.inr (Or.inr (Or.inr (Or.inr (Or.inr (Or.inr (Or.inr (Or.inr (Or.inr (Or.inr (Or.inr (Or.inl ⟨e1_z, e3_z, e2_z, e4_z⟩))))))))))))))))))))))))
    · exact Or.inr (Or.inr (Or.inr (Or.inr (Or.inr (Or.inr (Or.inr (Or.inr (Or.inr (Or.inr (Or.inr (Or.inr (Or.inr (Or.inr (Or.inr (Or.inr (Or.inr (Or.inr (Or.inr (Or.inr (Or.inr (Or.inr (Or.inr (Or.inr (Or.inr (Or.inl ⟨e1_z, e3_z, e2_z, e4_z⟩)))))))))))))))))))))))))
    · exact Or.inr (Or.inr (Or.inr (Or.inr (Or.inr (Or.inr (Or.inr (Or.inr (Or.inr (Or.inr (Or.inr (Or.inr (Or.inr (Or.inr (Or.inr (Or.inr (Or.inr (Or.inr (Or.inr (Or.inr (Or.inr (Or.inr (Or.inr (Or.inr (Or.inr (Or.inr (Or.inl ⟨e1_z, e3_z, e2_z, e4_z⟩))))))))))))))))))))))))))
    · exact Or.inr (Or.inr (Or.inr (Or.inr (Or.inr (Or.inr (Or.inr (Or.inr (Or.inr (Or.inr (Or.inr (Or.inr (Or.inr (Or.inr (Or.inr (Or.inr (Or.inr (Or.inr (Or.inr (Or.inr (Or.inr (Or.inr (Or.inr (Or.inr (Or.inr (Or.inr (Or.inr (⟨e1_z, e3_z, e2_z, e4_z⟩)))))))))))))))))))))))))))
/-- how a step of a law ends in both; w: what is wanted then -/
def rv_Q (T : Nat → Int32) (S x p : Int32) (d : Nat) (h' g' : am_H) (r r' : Option Value) : Prop := (∃ w x2_z p2_z, r = some (.int w) ∧ r' = some (.int 1) ∧ rq T S x2_z p2_z d h' g' ∧ x.toInt ≤ p2_z.toInt ∧ rp d h' g' ∧ rp_t h' g' ∧ rs d h' g' ∧ rs_wt w g') ∨ (r' = some (.int 0) ∧ rq_F p h' g')
