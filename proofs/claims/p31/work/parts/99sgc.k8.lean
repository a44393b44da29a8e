/-! ===== THE STATE ALIKE IN BOTH, ON (wip/r/gen99sg.py) ===== -/
theorem bl_pair {h h' g g' : am_H} {r r' : Option Value} {b m se en rs tk tm hd_z s1_z s2_z N : Int32} (S : St 1 h g) (E1 : rg_v h 48 1 = s1_z) (E5 : rg_v h 49 b.toNatClampNeg = se) (En : rg_v h 51 b.toNatClampNeg = en) (N4 : N.toInt ≤ 4) (HB : 0 ≤ b.toInt → b.toInt < N.toInt → (0 ≤ rs.toInt ∧ rs.toInt ≤ 99) ∧ (1 ≤ tm.toInt ∧ tm.toInt ≤ 20) ∧ (0 ≤ hd_z.toInt ∧ hd_z.toInt ≤ 99) ∧ (0 ≤ tk.toInt ∧ tk.toInt ≤ 99)) (cf_z : ∀ o k, (56 ≤ o ∧ o ≤ 59) ∨ (o = 0 ∧ k = 8) → rg_v h' o k = rg_v h o k) (mf : ∀ q, rg_v g' 201 q = rg_v g 201 q) (m79_z : rg_v g' 164 79 = rg_v g 164 79)
    (c : (¬ (0 ≤ b.toInt ∧ b.toInt < N.toInt ∧ 1 ≤ m.toInt ∧ m.toInt ≤ 20) ∧ r = some (.int (-1)) ∧ (∀ o k, ¬ (148 ≤ o ∧ o ≤ 152) → h' o k = h o k)) ∨ ((0 ≤ b.toInt ∧ b.toInt < N.toInt ∧ 1 ≤ m.toInt ∧ m.toInt ≤ 20) ∧ (0 < rs.toInt ∧ tm.toInt < (ef se en (s1_z + hn_z s2_z b hd_z) rs + m).toInt) ∧ r = some (.int (-2)) ∧ (∀ o k, ¬ (148 ≤ o ∧ o ≤ 152) → h' o k = h o k)) ∨ ((0 ≤ b.toInt ∧ b.toInt < N.toInt ∧ 1 ≤ m.toInt ∧ m.toInt ≤ 20) ∧ ¬ (0 < rs.toInt ∧ tm.toInt < (ef se en (s1_z + hn_z s2_z b hd_z) rs + m).toInt) ∧ ((99999 - s1_z).toInt < (hn_z s2_z b hd_z + m * tk).toInt) ∧ r = some (.int (-1)) ∧ (∀ o k, ¬ (148 ≤ o ∧ o ≤ 152) → h' o k = h o k)) ∨ ((0 ≤ b.toInt ∧ b.toInt < N.toInt ∧ 1 ≤ m.toInt ∧ m.toInt ≤ 20) ∧ ¬ (0 < rs.toInt ∧ tm.toInt < (ef se en (s1_z + hn_z s2_z b hd_z) rs + m).toInt) ∧ ¬ ((99999 - s1_z).toInt < (hn_z s2_z b hd_z + m * tk).toInt) ∧ (∃ v : Int32, r = some (.int v)) ∧ hp_z h h h' ∧ (∀ j, 1 ≤ j → j < 17 → cS_z h' 48 j = bW (cS_z h 48) b m.toInt.toNat (s1_z + hn_z s2_z b hd_z) rs tk j) ∧ (∀ o k, 62 ≤ o → o ≤ 141 → ¬ (62 + 4 * (rg_v h 60 1).toNatClampNeg ≤ o ∧ o ≤ 62 + 4 * (rg_v h 60 1).toNatClampNeg + 3) → h' o k = h o k)))
    (d : (¬ (0 ≤ b.toInt ∧ b.toInt < N.toInt ∧ 1 ≤ m.toInt ∧ m.toInt ≤ 20) ∧ r' = some (.int (-1)) ∧ (∀ o q, mQ o q → g' o q = g o q)) ∨ ((0 ≤ b.toInt ∧ b.toInt < N.toInt ∧ 1 ≤ m.toInt ∧ m.toInt ≤ 20) ∧ mD rs tk tm m.toInt.toNat se en (s1_z + hn_z s2_z b hd_z) ∧ r' = some (.int (-2)) ∧ (∀ o q, mQ o q → g' o q = g o q)) ∨ ((0 ≤ b.toInt ∧ b.toInt < N.toInt ∧ 1 ≤ m.toInt ∧ m.toInt ≤ 20) ∧ ¬ mD rs tk tm m.toInt.toNat se en (s1_z + hn_z s2_z b hd_z) ∧ 99999 < (bT tk m.toInt.toNat (s1_z + hn_z s2_z b hd_z)).toInt ∧ r' = some (.int (-1)) ∧ (∀ o q, mQ o q → g' o q = g o q)) ∨ ((0 ≤ b.toInt ∧ b.toInt < N.toInt ∧ 1 ≤ m.toInt ∧ m.toInt ≤ 20) ∧ ¬ mD rs tk tm m.toInt.toNat se en (s1_z + hn_z s2_z b hd_z) ∧ ¬ 99999 < (bT tk m.toInt.toNat (s1_z + hn_z s2_z b hd_z)).toInt ∧ (∃ v : Int32, r' = some (.int v)) ∧ mpu g g g' ∧ ∀ j, 1 ≤ j → j < 17 → mS g' 0 j = mW (mS g 0) b m.toInt.toNat (s1_z + hn_z s2_z b hd_z) rs tk j)) : St 1 h' g' := by
  by_cases hv_z : (0 ≤ b.toInt ∧ b.toInt < N.toInt ∧ 1 ≤ m.toInt ∧ m.toInt ≤ 20)
  · obtain ⟨⟨r0_z, r9_z⟩, ⟨t1_z, t20_z⟩, ⟨h0_z, h9_z⟩, ⟨k0_z, k9_z⟩⟩ := HB hv_z.1 hv_z.2.1
    have cb := rt_cl hv_z.1
    have b4_z : b.toNatClampNeg < 4 := by clear c d; omega
    have SS := S
    obtain ⟨⟨sv, okf⟩, H, I⟩ := S
    obtain ⟨o1_z, o3_z, o5_z⟩ := okf
    have oe := o5_z b.toNatClampNeg b4_z
    rw [cS_s b4_z, cS_n b4_z, E5, En] at oe
    have o1_z' : 0 ≤ s1_z.toInt ∧ s1_z.toInt ≤ 99999 := by rw [← E1]; exact o1_z
    have oe1_z : en.toInt ≤ s1_z.toInt := by rw [← E1]; exact oe.1.2
    have hr := hn_r (l := s2_z) (b := b) h0_z h9_z
    have la := ab_iadd (x := s1_z) (y := hn_z s2_z b hd_z) (by clear c d; omega) (by clear c d; omega)
    have em : ((m.toInt.toNat : Nat) : Int) = m.toInt := by clear c d; omega
    have mt := se_mt (m := m) (t := tk) (by clear c d; omega) (by clear c d; omega) k0_z k9_z
    have ef0_z := ef_r (s := se) (e := en) (t := s1_z + hn_z s2_z b hd_z) (r := rs) oe.2.1 oe.2.2
    have fa := ab_iadd (x := ef se en (s1_z + hn_z s2_z b hd_z) rs) (y := m) (by clear c d; omega) (by clear c d; omega)
    have ha_z := ab_iadd (x := hn_z s2_z b hd_z) (y := m * tk) (by clear c d; omega) (by clear c d; omega)
    have z9_z : (99999 : Int32).toInt = 99999 := by decide
    have sb := ab_isub (x := 99999) (y := s1_z) (by clear c d; rw [z9_z]; omega) (by clear c d; rw [z9_z]; omega)
    rw [z9_z] at sb
    have bti := bT_i k0_z m.toInt.toNat (s1_z + hn_z s2_z b hd_z) (by clear c d; omega) (by clear c d; rw [em]; omega)
    rw [em] at bti
    obtain ⟨i1_z, i2_z⟩ := mD_iff r0_z t1_z t20_z k0_z k9_z m.toInt.toNat se en (s1_z + hn_z s2_z b hd_z) oe.2.1 oe.2.2 oe.1.1 (by clear c d; omega) (by clear c d; omega)
    have di : mD rs tk tm m.toInt.toNat se en (s1_z + hn_z s2_z b hd_z) ↔ (0 < rs.toInt ∧ tm.toInt < (ef se en (s1_z + hn_z s2_z b hd_z) rs + m).toInt) := i1_z.trans ⟨fun q => ⟨q.2.1, by clear c d; omega⟩, fun q => ⟨by clear c d; omega, q.1, by clear c d; omega⟩⟩
    have li : ((99999 - s1_z).toInt < (hn_z s2_z b hd_z + m * tk).toInt) ↔ 99999 < (bT tk m.toInt.toNat (s1_z + hn_z s2_z b hd_z)).toInt := by clear c d; omega
    by_cases dz : (0 < rs.toInt ∧ tm.toInt < (ef se en (s1_z + hn_z s2_z b hd_z) rs + m).toInt)
    · rcases c with ⟨v, -⟩ | ⟨-, -, -, kp⟩ | ⟨-, v, -⟩ | ⟨-, v, -⟩
      · exact absurd hv_z v
      · rcases d with ⟨v, -⟩ | ⟨-, -, -, km⟩ | ⟨-, v, -⟩ | ⟨-, v, -⟩
        · exact absurd hv_z v
        · exact St_kk (by decide) kp km SS
        · exact absurd (di.mpr dz) v
        · exact absurd (di.mpr dz) v
      · exact absurd dz v
      · exact absurd dz v
    · have nd : ¬ mD rs tk tm m.toInt.toNat se en (s1_z + hn_z s2_z b hd_z) := fun q => dz (di.mp q)
      by_cases lt : ((99999 - s1_z).toInt < (hn_z s2_z b hd_z + m * tk).toInt)
      · rcases c with ⟨v, -⟩ | ⟨-, v, -⟩ | ⟨-, -, -, -, kp⟩ | ⟨-, -, v, -⟩
        · exact absurd hv_z v
        · exact absurd v dz
        · rcases d with ⟨v, -⟩ | ⟨-, v, -⟩ | ⟨-, -, -, -, km⟩ | ⟨-, -, v, -⟩
          · exact absurd hv_z v
          · exact absurd v nd
          · exact St_kk (by decide) kp km SS
          · exact absurd (li.mp lt) v
        · exact absurd lt v
      · rcases c with ⟨v, -⟩ | ⟨-, v, -⟩ | ⟨-, -, v, -⟩ | ⟨-, -, -, -, cp_z, cw, cfr⟩
        · exact absurd hv_z v
        · exact absurd v dz
        · exact absurd v lt
        · rcases d with ⟨v, -⟩ | ⟨-, v, -⟩ | ⟨-, -, v, -⟩ | ⟨-, -, -, -, dp, dw⟩
          · exact absurd hv_z v
          · exact absurd v nd
          · exact absurd v (fun q => lt (li.mpr q))
          · obtain ⟨jB, jR⟩ := i2_z nd
            have jr := jR (by omega)
            clear di li dz nd i1_z i2_z jR
            refine ⟨⟨fun j j1_z j17_z => ?_, ?_⟩, hR_push (by decide) SS.1 H cp_z cfr dp, iR_e (by decide) cf_z mf m79_z I⟩
            · rw [cw j j1_z j17_z, dw j j1_z j17_z]
              unfold bW mW
              rw [← sv (5 + b.toNatClampNeg) (by omega) (by omega), ← sv (13 + b.toNatClampNeg) (by omega) (by omega), ← sv (9 + b.toNatClampNeg) (by omega) (by omega), cS_s b4_z, cS_n b4_z, E5, En, jB]
              by_cases c1_z : j = 1
              · rw [if_pos c1_z, if_pos c1_z]
              · rw [if_neg c1_z, if_neg c1_z]
                by_cases c2_z : j = 2
                · rw [if_pos c2_z, if_pos c2_z]
                · rw [if_neg c2_z, if_neg c2_z, sv j j1_z j17_z]
            · have w1_z : cS_z h' 48 1 = bT tk m.toInt.toNat (s1_z + hn_z s2_z b hd_z) := by
                rw [cw 1 (by decide) (by decide)]
                unfold bW
                rw [if_pos rfl]
              have w3_z : cS_z h' 48 3 = cS_z h 48 3 := by
                rw [cw 3 (by decide) (by decide)]
                unfold bW
                rw [if_neg (by omega), if_neg (by omega), if_neg (by omega), if_neg (by omega), if_neg (by omega)]
              refine ⟨by rw [w1_z]; omega, by rw [w3_z]; exact o3_z, fun k hk_z => ?_⟩
              by_cases kb : k = b.toNatClampNeg
              · have w5_z : cS_z h' 48 (5 + k) = bS rs tk m.toInt.toNat se en (s1_z + hn_z s2_z b hd_z) := by
                  rw [cw (5 + k) (by omega) (by omega)]
                  unfold bW
                  rw [if_neg (by omega), if_neg (by omega), if_pos (by omega), cS_s b4_z, cS_n b4_z, E5, En]
                have w13_z : cS_z h' 48 (13 + k) = bT tk m.toInt.toNat (s1_z + hn_z s2_z b hd_z) := by
                  rw [cw (13 + k) (by omega) (by omega)]
                  unfold bW
                  rw [if_neg (by omega), if_neg (by omega), if_neg (by omega), if_neg (by omega), if_pos (by omega)]
                rw [w5_z, w13_z, w1_z]
                exact ⟨⟨by omega, by omega⟩, jr⟩
              · have w5_z : cS_z h' 48 (5 + k) = cS_z h 48 (5 + k) := by
                  rw [cw (5 + k) (by omega) (by omega)]
                  unfold bW
                  rw [if_neg (by omega), if_neg (by omega), if_neg (by omega), if_neg (by omega), if_neg (by omega)]
                have w13_z : cS_z h' 48 (13 + k) = cS_z h 48 (13 + k) := by
                  rw [cw (13 + k) (by omega) (by omega)]
                  unfold bW
                  rw [if_neg (by omega), if_neg (by omega), if_neg (by omega), if_neg (by omega), if_neg (by omega)]
                have q := o5_z k hk_z
                have q1_z : (cS_z h 48 1).toInt = s1_z.toInt := congrArg Int32.toInt E1
                rw [w5_z, w13_z, w1_z]
                refine ⟨⟨q.1.1, ?_⟩, q.2⟩
                have := q.1.2
                omega
  · rcases c with ⟨-, -, kp⟩ | ⟨v, -⟩ | ⟨v, -⟩ | ⟨v, -⟩
    · rcases d with ⟨-, -, km⟩ | ⟨v, -⟩ | ⟨v, -⟩ | ⟨v, -⟩
      · exact St_kk (by decide) kp km S
      · exact absurd v hv_z
      · exact absurd v hv_z
      · exact absurd v hv_z
    · exact absurd v hv_z
    · exact absurd v hv_z
    · exact absurd v hv_z
