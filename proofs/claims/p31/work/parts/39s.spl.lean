/-! ===== A REFERENCE TO ONE OF TWO CELLS: each by itself ===== -/
def ab_spl (F : ab_F) : List ab_F := match F.2.1 with
  | [] => [F]
  | e :: es => cond (Nat.beq e.1.1 4 && Nat.beq e.2.1 3 && Nat.beq e.1.2.2.2.length 2) (e.1.2.2.2.map (fun c => (F.1, ab_n (4, 0, 0, [c]) :: es, (e.2.2.1, (4, 0, 0, [c])) :: F.2.2))) [F]
theorem ab_spl_ok {ls : am_L} {st : List Value} {h : am_H} {F : ab_F} (hF : ab_gF F ls st h) : ∃ F' ∈ ab_spl F, ab_gF F' ls st h := by
  unfold ab_spl
  split
  · exact ⟨F, List.mem_singleton.mpr rfl, hF⟩
  · rename_i e es hst
    cases hb : (Nat.beq e.1.1 4 && Nat.beq e.2.1 3 && Nat.beq e.1.2.2.2.length 2) with
    | false => exact ⟨F, List.mem_singleton.mpr rfl, hF⟩
    | true =>
      rw [cond_true]
      rw [Bool.and_eq_true, Bool.and_eq_true] at hb
      obtain ⟨v, st', rfl, g1, g2⟩ := ab_top1 hF hst
      obtain ⟨n, rfl, hn⟩ := ab_g4 hb.1.1 g1.1
      have ht := g1.2
      unfold ab_tie at ht
      rw [Nat.eq_of_beq_eq_true hb.1.2] at ht
      have hg : ab_g (4, 0, 0, [n]) (.ref n) := ⟨n, rfl, List.mem_singleton.mpr rfl⟩
      refine ⟨_, List.mem_map.mpr ⟨n, hn, rfl⟩, hF.1, ⟨ab_n_ok hg, g2⟩, fun q hq => ?_⟩
      rcases List.mem_cons.mp hq with rfl | hq
      · exact ⟨_, ht, hg⟩
      · exact hF.2.2 q hq
