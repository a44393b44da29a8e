/-! ===== A PLACE'S LONG IS KNOWN NOT TO BE 0, OR TO BE 0 ===== -/
def ab_lgV (nz : Bool) : ab_V := cond nz (2, 0, 0, []) (3, 0, 0, [])
theorem ab_lgV_ok {nz : Bool} {y : Int64} (hz : nz = true ↔ y ≠ 0) : ab_g (ab_lgV nz) (.long y) := by
  cases nz with
  | true => exact ⟨y, rfl, hz.mp rfl⟩
  | false =>
    have e : y = 0 := by
      by_cases q : y = 0
      · exact q
      · exact absurd (hz.mpr q) (by decide)
    subst e
    rfl
def ab_narL (F : ab_F) (p : ab_P) (nz : Bool) : ab_F := match p.1 with
  | 0 => (F.1.map (fun q => cond (Nat.beq q.1 p.2) (q.1, ab_lgV nz) q), F.2.1, F.2.2)
  | _ => (F.1, F.2.1, (p, ab_lgV nz) :: F.2.2)
theorem ab_narL_ok {ls : am_L} {st : List Value} {h : am_H} {F : ab_F} {p : ab_P} {nz : Bool} {y : Int64} (hF : ab_gF F ls st h) (hy : ab_at ls h p = some (.long y)) (hz : nz = true ↔ y ≠ 0) : ab_gF (ab_narL F p nz) ls st h := by
  obtain ⟨a, k⟩ := p
  cases a with
  | zero =>
    refine ⟨fun q hq => ?_, hF.2.1, hF.2.2⟩
    obtain ⟨r, hr, e⟩ := List.mem_map.mp hq
    obtain ⟨v, g1, g2⟩ := hF.1 r hr
    cases hc : Nat.beq r.1 k with
    | false =>
      rw [hc, cond_false] at e
      subst e
      exact ⟨v, g1, g2⟩
    | true =>
      rw [hc, cond_true] at e
      subst e
      refine ⟨.long y, ?_, ab_lgV_ok hz⟩
      show am_get ls r.1 = _
      rw [Nat.eq_of_beq_eq_true hc]
      exact hy
  | succ o =>
    refine ⟨hF.1, hF.2.1, fun q hq => ?_⟩
    rcases List.mem_cons.mp hq with rfl | hq
    · exact ⟨_, hy, ab_lgV_ok hz⟩
    · exact hF.2.2 q hq
