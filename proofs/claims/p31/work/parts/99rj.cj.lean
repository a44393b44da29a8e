/-! ===== CHEEK ALIKE IN BOTH (wip/r/gen99rj.py) ===== -/
theorem ck_up {h' g' : am_H} {s : Int32} (s0_z : 0 ≤ s.toInt) (lt : s.toInt < 24) (b : rg_v h' 142 0 = s + 1) (b2_z : rg_v g' 164 73 = s + 1) : ck_z h' g' := by
  have z1_z : (1 : Int32).toInt = 1 := by decide
  have w := ab_iadd (x := s) (y := 1) (by omega) (by omega)
  refine ⟨b.trans b2_z.symm, ?_, ?_⟩
  · rw [b, w]; omega
  · rw [b, w]; omega
theorem ck_as {h' g' : am_H} {s : Int32} (s0_z : 0 ≤ s.toInt) (s4_z : s.toInt ≤ 24) (b : rg_v h' 142 0 = s) (b2_z : rg_v g' 164 73 = s) : ck_z h' g' := by
  refine ⟨b.trans b2_z.symm, ?_, ?_⟩
  · rw [b]; exact s0_z
  · rw [b]; exact s4_z
theorem ck_x4 {x : Int32} (a : 0 ≤ x.toInt) (b : x.toInt < 4) : x = 0 ∨ x = 1 ∨ x = 2 ∨ x = 3 := by
  have h5_z : x.toInt = 0 ∨ x.toInt = 1 ∨ x.toInt = 2 ∨ x.toInt = 3 := by omega
  rcases h5_z with q | q | q | q
  · exact Or.inl (Int32.toInt_inj.mp (q.trans (by decide)))
  · exact Or.inr (Or.inl (Int32.toInt_inj.mp (q.trans (by decide))))
  · exact Or.inr (Or.inr (Or.inl (Int32.toInt_inj.mp (q.trans (by decide)))))
  · exact Or.inr (Or.inr (Or.inr (Int32.toInt_inj.mp (q.trans (by decide)))))
theorem ck_cheek2 {n n' : Nat} {h h' g g' : am_H} {r r' : Option Value} {x y z u : Int32} (D : h 0 2 = .ref 2) (K : rK 2 h g) (C : ck_z h g) (T : ∀ q, q < 4 → (rg_v h (19 + q) 3).toInt ≤ 20) (hc_z : rn n am_m125 0 (lv_args 0 [.ref 0, .int x, .int y, .int z, .int u]) [] h r h') (hm_z : rn n' am_m240 0 (lv_args 0 [.ref 164, .int x, .int y, .int z, .int u]) [] g r' g') : r = r' ∧ ck_z h' g' := by
  obtain ⟨-, ⟨n1_z, n2_z, n3_z⟩, -, -, -, ⟨C0, C1, C2, C3⟩, -⟩ := K
  obtain ⟨e, s0_z, s4_z⟩ := C
  by_cases hn_z : 0 ≤ x.toInt ∧ x.toInt < (rg_v h 2 2).toInt
  · rcases ck_x4 hn_z.1 (by omega) with rfl | rfl | rfl | rfl
    · have zq : (0 : Int32).toInt = 0 := by decide
      have t : rg_v h 19 3 = rg_v g 170 2 := C0 (by have := hn_z.2; rw [zq] at this; exact this) 3 (by decide)
      have t20_z : (rg_v h 19 3).toInt ≤ 20 := T 0 (by decide)
      rcases kc_125_2_0 rfl s0_z s4_z D rfl hc_z with ⟨p1_z, a, b⟩ | ⟨p1_z, a, b⟩
      · rcases kc_240_0 e.symm s0_z s4_z n1_z.symm n2_z n3_z hm_z with ⟨p2_z, a2_z, b2_z⟩ | ⟨p2_z, a2_z, b2_z⟩
        · exact ⟨a.trans a2_z.symm, ck_up s0_z p2_z.2.2.2.2.2 b b2_z⟩
        · exfalso
          rw [t] at p1_z
          omega
      · rcases kc_240_0 e.symm s0_z s4_z n1_z.symm n2_z n3_z hm_z with ⟨p2_z, a2_z, b2_z⟩ | ⟨p2_z, a2_z, b2_z⟩
        · exfalso
          rw [t] at p1_z t20_z
          omega
        · exact ⟨a.trans a2_z.symm, ck_as s0_z s4_z b b2_z⟩
    · have zq : (1 : Int32).toInt = 1 := by decide
      have t : rg_v h 20 3 = rg_v g 170 9 := C1 (by have := hn_z.2; rw [zq] at this; exact this) 3 (by decide)
      have t20_z : (rg_v h 20 3).toInt ≤ 20 := T 1 (by decide)
      rcases kc_125_2_1 rfl s0_z s4_z D rfl hc_z with ⟨p1_z, a, b⟩ | ⟨p1_z, a, b⟩
      · rcases kc_240_1 e.symm s0_z s4_z n1_z.symm n2_z n3_z hm_z with ⟨p2_z, a2_z, b2_z⟩ | ⟨p2_z, a2_z, b2_z⟩
        · exact ⟨a.trans a2_z.symm, ck_up s0_z p2_z.2.2.2.2.2 b b2_z⟩
        · exfalso
          rw [t] at p1_z
          omega
      · rcases kc_240_1 e.symm s0_z s4_z n1_z.symm n2_z n3_z hm_z with ⟨p2_z, a2_z, b2_z⟩ | ⟨p2_z, a2_z, b2_z⟩
        · exfalso
          rw [t] at p1_z t20_z
          omega
        · exact ⟨a.trans a2_z.symm, ck_as s0_z s4_z b b2_z⟩
    · have zq : (2 : Int32).toInt = 2 := by decide
      have t : rg_v h 21 3 = rg_v g 170 16 := C2 (by have := hn_z.2; rw [zq] at this; exact this) 3 (by decide)
      have t20_z : (rg_v h 21 3).toInt ≤ 20 := T 2 (by decide)
      rcases kc_125_2_2 rfl s0_z s4_z D rfl hc_z with ⟨p1_z, a, b⟩ | ⟨p1_z, a, b⟩
      · rcases kc_240_2 e.symm s0_z s4_z n1_z.symm n2_z n3_z hm_z with ⟨p2_z, a2_z, b2_z⟩ | ⟨p2_z, a2_z, b2_z⟩
        · exact ⟨a.trans a2_z.symm, ck_up s0_z p2_z.2.2.2.2.2 b b2_z⟩
        · exfalso
          rw [t] at p1_z
          omega
      · rcases kc_240_2 e.symm s0_z s4_z n1_z.symm n2_z n3_z hm_z with ⟨p2_z, a2_z, b2_z⟩ | ⟨p2_z, a2_z, b2_z⟩
        · exfalso
          rw [t] at p1_z t20_z
          omega
        · exact ⟨a.trans a2_z.symm, ck_as s0_z s4_z b b2_z⟩
    · have zq : (3 : Int32).toInt = 3 := by decide
      have t : rg_v h 22 3 = rg_v g 170 23 := C3 (by have := hn_z.2; rw [zq] at this; exact this) 3 (by decide)
      have t20_z : (rg_v h 22 3).toInt ≤ 20 := T 3 (by decide)
      rcases kc_125_2_3 rfl s0_z s4_z D rfl hc_z with ⟨p1_z, a, b⟩ | ⟨p1_z, a, b⟩
      · rcases kc_240_3 e.symm s0_z s4_z n1_z.symm n2_z n3_z hm_z with ⟨p2_z, a2_z, b2_z⟩ | ⟨p2_z, a2_z, b2_z⟩
        · exact ⟨a.trans a2_z.symm, ck_up s0_z p2_z.2.2.2.2.2 b b2_z⟩
        · exfalso
          rw [t] at p1_z
          omega
      · rcases kc_240_3 e.symm s0_z s4_z n1_z.symm n2_z n3_z hm_z with ⟨p2_z, a2_z, b2_z⟩ | ⟨p2_z, a2_z, b2_z⟩
        · exfalso
          rw [t] at p1_z t20_z
          omega
        · exact ⟨a.trans a2_z.symm, ck_as s0_z s4_z b b2_z⟩
  · obtain ⟨a, b⟩ := kc_125_2_n D rfl hn_z hc_z
    obtain ⟨a2_z, b2_z⟩ := kc_240_n e.symm s0_z s4_z n1_z.symm n2_z n3_z hn_z hm_z
    exact ⟨a.trans a2_z.symm, ck_as s0_z s4_z (by rw [b]) b2_z⟩
theorem ck_cheek23 {n n' : Nat} {h h' g g' : am_H} {r r' : Option Value} {x y z u : Int32} (D : h 0 2 = .ref 23) (K : rK 23 h g) (C : ck_z h g) (T : ∀ q, q < 4 → (rg_v h (40 + q) 3).toInt ≤ 20) (hc_z : rn n am_m125 0 (lv_args 0 [.ref 0, .int x, .int y, .int z, .int u]) [] h r h') (hm_z : rn n' am_m240 0 (lv_args 0 [.ref 164, .int x, .int y, .int z, .int u]) [] g r' g') : r = r' ∧ ck_z h' g' := by
  obtain ⟨-, ⟨n1_z, n2_z, n3_z⟩, -, -, -, ⟨C0, C1, C2, C3⟩, -⟩ := K
  obtain ⟨e, s0_z, s4_z⟩ := C
  by_cases hn_z : 0 ≤ x.toInt ∧ x.toInt < (rg_v h 23 2).toInt
  · rcases ck_x4 hn_z.1 (by omega) with rfl | rfl | rfl | rfl
    · have zq : (0 : Int32).toInt = 0 := by decide
      have t : rg_v h 40 3 = rg_v g 170 2 := C0 (by have := hn_z.2; rw [zq] at this; exact this) 3 (by decide)
      have t20_z : (rg_v h 40 3).toInt ≤ 20 := T 0 (by decide)
      rcases kc_125_23_0 rfl s0_z s4_z D rfl hc_z with ⟨p1_z, a, b⟩ | ⟨p1_z, a, b⟩
      · rcases kc_240_0 e.symm s0_z s4_z n1_z.symm n2_z n3_z hm_z with ⟨p2_z, a2_z, b2_z⟩ | ⟨p2_z, a2_z, b2_z⟩
        · exact ⟨a.trans a2_z.symm, ck_up s0_z p2_z.2.2.2.2.2 b b2_z⟩
        · exfalso
          rw [t] at p1_z
          omega
      · rcases kc_240_0 e.symm s0_z s4_z n1_z.symm n2_z n3_z hm_z with ⟨p2_z, a2_z, b2_z⟩ | ⟨p2_z, a2_z, b2_z⟩
        · exfalso
          rw [t] at p1_z t20_z
          omega
        · exact ⟨a.trans a2_z.symm, ck_as s0_z s4_z b b2_z⟩
    · have zq : (1 : Int32).toInt = 1 := by decide
      have t : rg_v h 41 3 = rg_v g 170 9 := C1 (by have := hn_z.2; rw [zq] at this; exact this) 3 (by decide)
      have t20_z : (rg_v h 41 3).toInt ≤ 20 := T 1 (by decide)
      rcases kc_125_23_1 rfl s0_z s4_z D rfl hc_z with ⟨p1_z, a, b⟩ | ⟨p1_z, a, b⟩
      · rcases kc_240_1 e.symm s0_z s4_z n1_z.symm n2_z n3_z hm_z with ⟨p2_z, a2_z, b2_z⟩ | ⟨p2_z, a2_z, b2_z⟩
        · exact ⟨a.trans a2_z.symm, ck_up s0_z p2_z.2.2.2.2.2 b b2_z⟩
        · exfalso
          rw [t] at p1_z
          omega
      · rcases kc_240_1 e.symm s0_z s4_z n1_z.symm n2_z n3_z hm_z with ⟨p2_z, a2_z, b2_z⟩ | ⟨p2_z, a2_z, b2_z⟩
        · exfalso
          rw [t] at p1_z t20_z
          omega
        · exact ⟨a.trans a2_z.symm, ck_as s0_z s4_z b b2_z⟩
    · have zq : (2 : Int32).toInt = 2 := by decide
      have t : rg_v h 42 3 = rg_v g 170 16 := C2 (by have := hn_z.2; rw [zq] at this; exact this) 3 (by decide)
      have t20_z : (rg_v h 42 3).toInt ≤ 20 := T 2 (by decide)
      rcases kc_125_23_2 rfl s0_z s4_z D rfl hc_z with ⟨p1_z, a, b⟩ | ⟨p1_z, a, b⟩
      · rcases kc_240_2 e.symm s0_z s4_z n1_z.symm n2_z n3_z hm_z with ⟨p2_z, a2_z, b2_z⟩ | ⟨p2_z, a2_z, b2_z⟩
        · exact ⟨a.trans a2_z.symm, ck_up s0_z p2_z.2.2.2.2.2 b b2_z⟩
        · exfalso
          rw [t] at p1_z
          omega
      · rcases kc_240_2 e.symm s0_z s4_z n1_z.symm n2_z n3_z hm_z with ⟨p2_z, a2_z, b2_z⟩ | ⟨p2_z, a2_z, b2_z⟩
        · exfalso
          rw [t] at p1_z t20_z
          omega
        · exact ⟨a.trans a2_z.symm, ck_as s0_z s4_z b b2_z⟩
    · have zq : (3 : Int32).toInt = 3 := by decide
      have t : rg_v h 43 3 = rg_v g 170 23 := C3 (by have := hn_z.2; rw [zq] at this; exact this) 3 (by decide)
      have t20_z : (rg_v h 43 3).toInt ≤ 20 := T 3 (by decide)
      rcases kc_125_23_3 rfl s0_z s4_z D rfl hc_z with ⟨p1_z, a, b⟩ | ⟨p1_z, a, b⟩
      · rcases kc_240_3 e.symm s0_z s4_z n1_z.symm n2_z n3_z hm_z with ⟨p2_z, a2_z, b2_z⟩ | ⟨p2_z, a2_z, b2_z⟩
        · exact ⟨a.trans a2_z.symm, ck_up s0_z p2_z.2.2.2.2.2 b b2_z⟩
        · exfalso
          rw [t] at p1_z
          omega
      · rcases kc_240_3 e.symm s0_z s4_z n1_z.symm n2_z n3_z hm_z with ⟨p2_z, a2_z, b2_z⟩ | ⟨p2_z, a2_z, b2_z⟩
        · exfalso
          rw [t] at p1_z t20_z
          omega
        · exact ⟨a.trans a2_z.symm, ck_as s0_z s4_z b b2_z⟩
  · obtain ⟨a, b⟩ := kc_125_23_n D rfl hn_z hc_z
    obtain ⟨a2_z, b2_z⟩ := kc_240_n e.symm s0_z s4_z n1_z.symm n2_z n3_z hn_z hm_z
    exact ⟨a.trans a2_z.symm, ck_as s0_z s4_z (by rw [b]) b2_z⟩
