/-! ===== THE CODES OF THE HEAP BEHIND THE CONSTRUCTORS (wip/z) ===== -/
def gd_v (c : Nat) (v : Value) : Bool := match c, v with
  | 0, .int _ => true
  | 1, .int x => decide (x = 0) || decide (x = 1)
  | 2, .long _ => true
  | 3, .ref _ => true
  | n + 4, .ref m => Nat.beq m n
  | _, _ => false
theorem gd_ok {c : Nat} {v : Value} (hb_z : gd_v c v = true) : rg_g c v := by
  unfold gd_v at hb_z
  split at hb_z
  · exact ⟨_, rfl⟩
  · rw [Bool.or_eq_true] at hb_z
    rcases hb_z with q | q
    · exact Or.inl (by rw [of_decide_eq_true q])
    · exact Or.inr (by rw [of_decide_eq_true q])
  · exact ⟨_, rfl⟩
  · exact ⟨_, rfl⟩
  · show _ = _
    rw [Nat.eq_of_beq_eq_true hb_z]
  · cases hb_z
noncomputable def gd_B (o : Nat) : Bool := match am_ks0[o]? with
  | some kd => (List.range (ab_sz kd)).all (fun k => gd_v (rg_c o k) (am_h0 o k))
  | none => true
theorem gd_0 : (List.range 24).all gd_B = true := by decide +kernel
theorem gd_1 : ((List.range 60).drop 24).all gd_B = true := by decide +kernel
theorem gd_2 : ((List.range 164).drop 60).all gd_B = true := by decide +kernel
theorem gd_3 : ((List.range 203).drop 164).all gd_B = true := by decide +kernel
theorem gd_h0 : rg_Gd am_h0 := by
  intro o k kd hk_z hz_z
  have hl_z : o < am_ks0.length := (List.getElem?_eq_some_iff.mp hk_z).1
  rw [rg_len] at hl_z
  have hb_z : gd_B o = true := by
    have e : (List.range 24 ++ (List.range 60).drop 24) ++ ((List.range 164).drop 60 ++ (List.range 203).drop 164) = List.range 203 := by decide +kernel
    have hm_z : o ∈ (List.range 24 ++ (List.range 60).drop 24) ++ ((List.range 164).drop 60 ++ (List.range 203).drop 164) := by
      rw [e]
      exact List.mem_range.mpr hl_z
    rcases List.mem_append.mp hm_z with q | q
    · rcases List.mem_append.mp q with q | q
      · exact List.all_eq_true.mp gd_0 o q
      · exact List.all_eq_true.mp gd_1 o q
    · rcases List.mem_append.mp q with q | q
      · exact List.all_eq_true.mp gd_2 o q
      · exact List.all_eq_true.mp gd_3 o q
  unfold gd_B at hb_z
  rw [hk_z] at hb_z
  exact gd_ok (List.all_eq_true.mp hb_z k (List.mem_range.mpr hz_z))
