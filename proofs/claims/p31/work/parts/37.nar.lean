/-! ===== A PLACE'S NUMBER IS NARROWED ===== -/
def ab_nar (F : ab_F) (p : ab_P) (l u : Int) : ab_F := match p.1 with
  | 0 => (F.1.map (fun q => cond (Nat.beq q.1 p.2 && Nat.beq q.2.1 0) (q.1, (0, max q.2.2.1 l, min q.2.2.2.1 u, [])) q), F.2.1, F.2.2)
  | _ => (F.1, F.2.1, (p, ab_i l u) :: F.2.2)
theorem ab_nar_ok {ls : am_L} {st : List Value} {h : am_H} {F : ab_F} {p : ab_P} {l u : Int} {y : Int32} (hF : ab_gF F ls st h) (hy : ab_at ls h p = some (.int y)) (h1 : l ≤ y.toInt) (h2 : y.toInt ≤ u) : ab_gF (ab_nar F p l u) ls st h := by
  obtain ⟨a, k⟩ := p
  cases a with
  | zero =>
    refine ⟨fun q hq => ?_, hF.2.1, hF.2.2⟩
    obtain ⟨r, hr, e⟩ := List.mem_map.mp hq
    obtain ⟨v, g1, g2⟩ := hF.1 r hr
    cases hc : (Nat.beq r.1 k && Nat.beq r.2.1 0) with
    | false =>
      rw [hc, cond_false] at e
      subst e
      exact ⟨v, g1, g2⟩
    | true =>
      rw [hc, cond_true] at e
      subst e
      rw [Bool.and_eq_true] at hc
      obtain ⟨x, rfl, l1, u1⟩ := ab_gI hc.2 g2
      have hy : am_get ls k = some (.int y) := hy
      rw [Nat.eq_of_beq_eq_true hc.1, hy] at g1
      cases g1
      refine ⟨.int y, ?_, y, rfl, ?_, ?_⟩
      · show am_get ls r.1 = _
        rw [Nat.eq_of_beq_eq_true hc.1]
        exact hy
      · show max r.2.2.1 l ≤ y.toInt
        omega
      · show y.toInt ≤ min r.2.2.2.1 u
        omega
  | succ o =>
    refine ⟨hF.1, hF.2.1, fun q hq => ?_⟩
    rcases List.mem_cons.mp hq with rfl | hq
    · exact ⟨_, hy, ab_i_ok h1 h2⟩
    · exact hF.2.2 q hq
