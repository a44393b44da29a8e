/-! ===== THE HEAP BEHIND THE CONSTRUCTORS IS GOOD ===== -/
theorem ag_cells {o : Nat} (ho : o < 203) : ab_cellB am_h0 o = true := by
  have h5 := ab_i5
  rw [Bool.and_eq_true, Bool.and_eq_true] at h5
  have hm : ∀ (a b : Nat), a ≤ o → o < b → o ∈ (List.range b).drop a := by
    intro a b h1 h2
    rw [List.mem_drop_iff_getElem]
    refine ⟨o - a, by rw [List.length_range]; omega, ?_⟩
    rw [List.getElem_range]
    omega
  by_cases h3 : o < 3
  · exact List.all_eq_true.mp ab_i0 o (List.mem_range.mpr h3)
  · by_cases h24 : o < 24
    · exact List.all_eq_true.mp ab_i1 o (hm 3 24 (by omega) h24)
    · by_cases h60 : o < 60
      · exact List.all_eq_true.mp ab_i2 o (hm 24 60 (by omega) h60)
      · by_cases h164 : o < 164
        · exact List.all_eq_true.mp ab_i3 o (hm 60 164 (by omega) h164)
        · by_cases h200 : o < 200
          · exact List.all_eq_true.mp ab_i4 o (hm 164 200 (by omega) h200)
          · exact List.all_eq_true.mp h5.1.1 o (hm 200 203 (by omega) ho)
theorem ag_Inv0 : ab_Inv (ab_hi ab_tab) am_h0 := by
  intro o k kd hkd hk
  have hl : am_ks0.length = 203 := by decide +kernel
  have ho : o < 203 := hl ▸ (List.getElem?_eq_some_iff.mp hkd).1
  have hc := ag_cells ho
  unfold ab_cellB at hc
  rw [hkd] at hc
  exact ab_gb_ok (List.all_eq_true.mp hc k (List.mem_range.mpr hk))
theorem ag_z {h : am_H} {o n k : Nat} (hz : ac_zB h o n = true) (hk : k < n) : h o k = .int 0 := by
  have h1 := List.all_eq_true.mp hz k (List.mem_range.mpr hk)
  split at h1
  · rename_i x e
    rw [e, of_decide_eq_true h1]
  · cases h1
theorem ag_f {h : am_H} (hz : ac_fB h = true) {k : Nat} (hk : k ∈ [1, 6, 7, 8, 12, 13, 14, 17, 18, 19]) : h 164 k = .int 0 := by
  have h1 := List.all_eq_true.mp hz k hk
  split at h1
  · rename_i x e
    rw [e, of_decide_eq_true h1]
  · cases h1
theorem ag_G0 : ag_G 0 am_h0 := by
  have h5 := ab_i5
  simp only [Bool.and_eq_true] at h5
  obtain ⟨⟨-, ⟨⟨⟨⟨⟨⟨⟨z12, z33⟩, z143⟩, z144⟩, z178⟩, z181⟩, z198⟩, z200⟩, z201⟩, ⟨zf, zw⟩, z01⟩ := h5
  have z0 : (0 : Int32).toInt = 0 := by decide
  have f : ∀ k, k ∈ [1, 6, 7, 8, 12, 13, 14, 17, 18, 19] → am_h0 164 k = .int 0 := fun k hk => ag_f zf hk
  obtain ⟨wh, ewh, -⟩ := ac_g9 ag_Inv0
  have no : ∀ {n : Int32} {k : Nat}, k ∈ [1, 6, 7, 8, 12, 13, 14, 17, 18, 19] → am_h0 164 k = .int n → n = 0 := fun {n k} hk e => by
    rw [f k hk] at e
    cases e
    rfl
  refine ⟨ag_Inv0, ⟨fun k hk e => ?_, fun k hk e => ?_, fun k hk _ => ⟨0, ag_z z144 hk, by decide, by decide⟩⟩, ⟨?_, ?_, ?_, ?_, ?_, ?_, ?_, ?_, ?_, ?_, ?_, ?_, ?_⟩, ?_, f 1 (by decide)⟩
  · rw [ag_z z12 hk] at e
    exact absurd (Value.int.inj e) (by decide)
  · rw [ag_z z33 hk] at e
    exact absurd (Value.int.inj e) (by decide)
  · intro k hk
    have h1 := List.all_eq_true.mp zw k (List.mem_range.mpr hk)
    split at h1
    · rename_i x e
      rw [e, of_decide_eq_true h1]
    · cases h1
  · intro k hk x e
    rw [ag_z z181 hk] at e
    cases e
    exact ⟨fun q => absurd q (by decide), fun q => absurd q (by decide), fun q => absurd q (by decide)⟩
  · intro k hk e
    rw [ag_z z178 (by omega)] at e
    exact absurd (Value.int.inj e) (by decide)
  · intro l e hl
    rw [no (by decide) e] at hl
    exact absurd hl (by decide)
  · intro t n e ht
    rw [no (by decide) e] at ht
    omega
  · intro i hi
    exact ⟨0, 0, ag_z z198 (by omega), by decide, by decide, ag_z z198 (by omega), fun q => absurd q (by decide)⟩
  · intro k n e hk
    rw [no (by decide) e] at hk
    omega
  · exact ⟨fun u hu => ⟨0, ag_z z200 (by omega), by decide, by decide⟩, 0, ag_z z201 (by decide), by decide, by decide⟩
  · intro l e hl
    rw [no (by decide) e] at hl
    exact absurd hl (by decide)
  · intro t n e ht
    rw [no (by decide) e] at ht
    omega
  · intro k n e hk
    rw [no (by decide) e] at hk
    omega
  · exact ⟨0, 0, f 7 (by decide), f 6 (by decide), by decide⟩
  · exact ⟨0, wh, f 8 (by decide), ewh, fun q => absurd q (by decide), fun q => absurd q (by decide), fun q => absurd q (by decide)⟩
  · split at z01
    · rename_i x e
      rw [e, of_decide_eq_true z01]
    · cases z01
