/-! ===== THE STATE ALIKE IN BOTH, ON (wip/r/gen99sg.py) ===== -/
theorem ps_pair {h h' g g' : am_H} {W : (Nat → Int32) → Int32 → Nat → Int32} {m : Int32} (S : St 1 h g) (cf_z : ∀ o k, (56 ≤ o ∧ o ≤ 59) ∨ (o = 0 ∧ k = 8) → rg_v h' o k = rg_v h o k) (mf : ∀ q, rg_v g' 201 q = rg_v g 201 q) (m79_z : rg_v g' 164 79 = rg_v g 164 79) (we : ∀ f f' : Nat → Int32, (∀ j, 1 ≤ j → j < 17 → f j = f' j) → ∀ j, 1 ≤ j → j < 17 → W f m j = W f' m j) (wo : okF (cS_z h 48) → okF (W (cS_z h 48) m)) (cp_z : hp_z h h h') (cw : ∀ j, 1 ≤ j → j < 17 → cS_z h' 48 j = W (cS_z h 48) m j) (cfr : (∀ o k, 62 ≤ o → o ≤ 141 → ¬ (62 + 4 * (rg_v h 60 1).toNatClampNeg ≤ o ∧ o ≤ 62 + 4 * (rg_v h 60 1).toNatClampNeg + 3) → h' o k = h o k)) (dp : mpu g g g') (dw : ∀ j, 1 ≤ j → j < 17 → mS g' 0 j = W (mS g 0) m j) : St 1 h' g' := by
  obtain ⟨s, H, I⟩ := S
  refine ⟨⟨fun j j1_z j17_z => (cw j j1_z j17_z).trans ((we _ _ s.1 j j1_z j17_z).trans (dw j j1_z j17_z).symm), okF_e (fun j j1_z j17_z => cw j j1_z j17_z) (wo s.2)⟩, hR_push (by decide) s H cp_z cfr dp, iR_e (by decide) cf_z mf m79_z I⟩
theorem wt_pair {h h' g g' : am_H} {r r' : Option Value} {m s1_z : Int32} (S : St 1 h g) (E1 : rg_v h 48 1 = s1_z) (cf_z : ∀ o k, (56 ≤ o ∧ o ≤ 59) ∨ (o = 0 ∧ k = 8) → rg_v h' o k = rg_v h o k) (mf : ∀ q, rg_v g' 201 q = rg_v g 201 q) (m79_z : rg_v g' 164 79 = rg_v g 164 79)
    (c : (¬ (1 ≤ m.toInt ∧ m.toInt ≤ 999 ∧ s1_z.toInt + m.toInt ≤ 99999) ∧ r = some (.int (-1)) ∧ (∀ o k, ¬ (148 ≤ o ∧ o ≤ 152) → h' o k = h o k)) ∨ ((1 ≤ m.toInt ∧ m.toInt ≤ 999 ∧ s1_z.toInt + m.toInt ≤ 99999) ∧ (∃ v : Int32, r = some (.int v)) ∧ hp_z h h h' ∧ (∀ j, 1 ≤ j → j < 17 → cS_z h' 48 j = wW (cS_z h 48) m j) ∧ (∀ o k, 62 ≤ o → o ≤ 141 → ¬ (62 + 4 * (rg_v h 60 1).toNatClampNeg ≤ o ∧ o ≤ 62 + 4 * (rg_v h 60 1).toNatClampNeg + 3) → h' o k = h o k)))
    (d : (¬ (1 ≤ m.toInt ∧ m.toInt ≤ 999 ∧ s1_z.toInt + m.toInt ≤ 99999) ∧ r' = some (.int (-1)) ∧ (∀ o q, mQ o q → g' o q = g o q)) ∨ ((1 ≤ m.toInt ∧ m.toInt ≤ 999 ∧ s1_z.toInt + m.toInt ≤ 99999) ∧ (∃ v : Int32, r' = some (.int v)) ∧ mpu g g g' ∧ ∀ j, 1 ≤ j → j < 17 → mS g' 0 j = wW (mS g 0) m j)) : St 1 h' g' := by
  by_cases hv_z : 1 ≤ m.toInt ∧ m.toInt ≤ 999 ∧ s1_z.toInt + m.toInt ≤ 99999
  · rcases c with ⟨v, -⟩ | ⟨-, -, cp_z, cw, cfr⟩
    · exact absurd hv_z v
    · rcases d with ⟨v, -⟩ | ⟨-, -, dp, dw⟩
      · exact absurd hv_z v
      · refine ps_pair S cf_z mf m79_z (fun f f' e j j1_z j17_z => ?_) (fun o => ?_) cp_z cw cfr dp dw
        · unfold wW
          rw [e 1 (by decide) (by decide), e j j1_z j17_z]
        · obtain ⟨o1_z, o3_z, o5_z⟩ := o
          have q1_z : (cS_z h 48 1).toInt = s1_z.toInt := congrArg Int32.toInt E1
          have a := ab_iadd (x := cS_z h 48 1) (y := m) (by omega) (by omega)
          have w1_z : wW (cS_z h 48) m 1 = cS_z h 48 1 + m := by
            unfold wW
            rw [if_pos rfl]
          have wn : ∀ j, ¬ j = 1 → wW (cS_z h 48) m j = cS_z h 48 j := fun j hj_z => by
            unfold wW
            rw [if_neg hj_z]
          unfold okF
          rw [w1_z, wn 3 (by decide)]
          refine ⟨by omega, o3_z, fun k hk_z => ?_⟩
          rw [wn (13 + k) (by omega), wn (5 + k) (by omega)]
          have q := o5_z k hk_z
          exact ⟨⟨q.1.1, by omega⟩, q.2⟩
  · rcases c with ⟨-, -, kp⟩ | ⟨v, -⟩
    · rcases d with ⟨-, -, km⟩ | ⟨v, -⟩
      · exact St_kk (by decide) kp km S
      · exact absurd v hv_z
    · exact absurd v hv_z
theorem pm_pair {h h' g g' : am_H} {r r' : Option Value} {m s1_z lf x y : Int32} (S : St 1 h g) (E1 : rg_v h 48 1 = s1_z) (E3 : rg_v h 48 3 = lf) (xy : ¬ x.toInt = 0 ↔ ¬ y.toInt = 0) (cf_z : ∀ o k, (56 ≤ o ∧ o ≤ 59) ∨ (o = 0 ∧ k = 8) → rg_v h' o k = rg_v h o k) (mf : ∀ q, rg_v g' 201 q = rg_v g 201 q) (m79_z : rg_v g' 164 79 = rg_v g 164 79)
    (c : (¬ (¬ x.toInt = 0 ∧ 1 ≤ m.toInt) ∧ r = some (.int (-1)) ∧ (∀ o k, ¬ (148 ≤ o ∧ o ≤ 152) → h' o k = h o k)) ∨ ((¬ x.toInt = 0 ∧ 1 ≤ m.toInt) ∧ ¬ (m.toInt ≤ lf.toInt) ∧ r = some (.int (-2)) ∧ (∀ o k, ¬ (148 ≤ o ∧ o ≤ 152) → h' o k = h o k)) ∨ (((¬ x.toInt = 0 ∧ 1 ≤ m.toInt) ∧ (m.toInt ≤ lf.toInt)) ∧ ¬ (s1_z.toInt + m.toInt ≤ 99999) ∧ r = some (.int (-1)) ∧ (∀ o k, ¬ (148 ≤ o ∧ o ≤ 152) → h' o k = h o k)) ∨ ((¬ x.toInt = 0 ∧ 1 ≤ m.toInt) ∧ (m.toInt ≤ lf.toInt) ∧ (s1_z.toInt + m.toInt ≤ 99999) ∧ (∃ v : Int32, r = some (.int v)) ∧ hp_z h h h' ∧ (∀ j, 1 ≤ j → j < 17 → cS_z h' 48 j = pW (cS_z h 48) m j) ∧ (∀ o k, 62 ≤ o → o ≤ 141 → ¬ (62 + 4 * (rg_v h 60 1).toNatClampNeg ≤ o ∧ o ≤ 62 + 4 * (rg_v h 60 1).toNatClampNeg + 3) → h' o k = h o k)))
    (d : (¬ (¬ y.toInt = 0 ∧ 1 ≤ m.toInt) ∧ r' = some (.int (-1)) ∧ (∀ o q, mQ o q → g' o q = g o q)) ∨ ((¬ y.toInt = 0 ∧ 1 ≤ m.toInt) ∧ ¬ (m.toInt ≤ lf.toInt) ∧ r' = some (.int (-2)) ∧ (∀ o q, mQ o q → g' o q = g o q)) ∨ (((¬ y.toInt = 0 ∧ 1 ≤ m.toInt) ∧ (m.toInt ≤ lf.toInt)) ∧ ¬ (s1_z.toInt + m.toInt ≤ 99999) ∧ r' = some (.int (-1)) ∧ (∀ o q, mQ o q → g' o q = g o q)) ∨ ((¬ y.toInt = 0 ∧ 1 ≤ m.toInt) ∧ (m.toInt ≤ lf.toInt) ∧ (s1_z.toInt + m.toInt ≤ 99999) ∧ (∃ v : Int32, r' = some (.int v)) ∧ mpu g g g' ∧ ∀ j, 1 ≤ j → j < 17 → mS g' 0 j = pW (mS g 0) m j)) : St 1 h' g' := by
  by_cases hv_z : ¬ x.toInt = 0 ∧ 1 ≤ m.toInt
  · have hw_z : ¬ y.toInt = 0 ∧ 1 ≤ m.toInt := ⟨xy.mp hv_z.1, hv_z.2⟩
    by_cases hl_z : m.toInt ≤ lf.toInt
    · by_cases hs_z : s1_z.toInt + m.toInt ≤ 99999
      · rcases c with ⟨v, -⟩ | ⟨-, v, -⟩ | ⟨-, v, -⟩ | ⟨-, -, -, -, cp_z, cw, cfr⟩
        · exact absurd hv_z v
        · exact absurd hl_z v
        · exact absurd hs_z v
        · rcases d with ⟨v, -⟩ | ⟨-, v, -⟩ | ⟨-, v, -⟩ | ⟨-, -, -, -, dp, dw⟩
          · exact absurd hw_z v
          · exact absurd hl_z v
          · exact absurd hs_z v
          · refine ps_pair S cf_z mf m79_z (fun f f' e j j1_z j17_z => ?_) (fun o => ?_) cp_z cw cfr dp dw
            · unfold pW
              rw [e 1 (by decide) (by decide), e 3 (by decide) (by decide), e j j1_z j17_z]
            · obtain ⟨o1_z, o3_z, o5_z⟩ := o
              have q1_z : (cS_z h 48 1).toInt = s1_z.toInt := congrArg Int32.toInt E1
              have q3_z : (cS_z h 48 3).toInt = lf.toInt := congrArg Int32.toInt E3
              have a := ab_iadd (x := cS_z h 48 1) (y := m) (by omega) (by omega)
              have a3_z := ab_isub (x := cS_z h 48 3) (y := m) (by omega) (by omega)
              have w1_z : pW (cS_z h 48) m 1 = cS_z h 48 1 + m := by
                unfold pW
                rw [if_pos rfl]
              have w3_z : pW (cS_z h 48) m 3 = cS_z h 48 3 - m := by
                unfold pW
                rw [if_neg (by omega), if_neg (by omega), if_pos rfl]
              have wn : ∀ j, 4 ≤ j → pW (cS_z h 48) m j = cS_z h 48 j := fun j hj_z => by
                unfold pW
                rw [if_neg (by omega), if_neg (by omega), if_neg (by omega)]
              unfold okF
              rw [w1_z, w3_z]
              refine ⟨by omega, by omega, fun k hk_z => ?_⟩
              rw [wn (13 + k) (by omega), wn (5 + k) (by omega)]
              have q := o5_z k hk_z
              exact ⟨⟨q.1.1, by omega⟩, q.2⟩
      · rcases c with ⟨v, -⟩ | ⟨-, v, -⟩ | ⟨-, -, -, kp⟩ | ⟨-, -, v, -⟩
        · exact absurd hv_z v
        · exact absurd hl_z v
        · rcases d with ⟨v, -⟩ | ⟨-, v, -⟩ | ⟨-, -, -, km⟩ | ⟨-, -, v, -⟩
          · exact absurd hw_z v
          · exact absurd hl_z v
          · exact St_kk (by decide) kp km S
          · exact absurd v hs_z
        · exact absurd v hs_z
    · rcases c with ⟨v, -⟩ | ⟨-, -, -, kp⟩ | ⟨v, -⟩ | ⟨-, v, -⟩
      · exact absurd hv_z v
      · rcases d with ⟨v, -⟩ | ⟨-, -, -, km⟩ | ⟨v, -⟩ | ⟨-, v, -⟩
        · exact absurd hw_z v
        · exact St_kk (by decide) kp km S
        · exact absurd v.2 hl_z
        · exact absurd v hl_z
      · exact absurd v.2 hl_z
      · exact absurd v hl_z
  · have hw_z : ¬ (¬ y.toInt = 0 ∧ 1 ≤ m.toInt) := fun q => hv_z ⟨xy.mpr q.1, q.2⟩
    rcases c with ⟨-, -, kp⟩ | ⟨v, -⟩ | ⟨v, -⟩ | ⟨v, -⟩
    · rcases d with ⟨-, -, km⟩ | ⟨v, -⟩ | ⟨v, -⟩ | ⟨v, -⟩
      · exact St_kk (by decide) kp km S
      · exact absurd v hw_z
      · exact absurd v.1 hw_z
      · exact absurd v hw_z
    · exact absurd v hv_z
    · exact absurd v.1 hv_z
    · exact absurd v hv_z
theorem pt_pair {h h' g g' : am_H} {r r' : Option Value} {m n n2_z x y : Int32} (S : St 1 h g) (nn : n = n2_z) (xy : x = y) (cf_z : ∀ o k, (56 ≤ o ∧ o ≤ 59) ∨ (o = 0 ∧ k = 8) → rg_v h' o k = rg_v h o k) (mf : ∀ q, rg_v g' 201 q = rg_v g 201 q) (m79_z : rg_v g' 164 79 = rg_v g 164 79)
    (c : (¬ (0 ≤ m.toInt ∧ m.toInt < n.toInt ∧ (((rg_v h 48 4) >>> (m &&& 31)) &&& 1).toInt = 0) ∧ r = some (.int (-1)) ∧ ∀ o k, h' o k = h o k) ∨ ((0 ≤ m.toInt ∧ m.toInt < n.toInt ∧ (((rg_v h 48 4) >>> (m &&& 31)) &&& 1).toInt = 0) ∧ r = some (.int (if m = x then 1 else 0)) ∧ hp_z h h h' ∧ (∀ j, 0 ≤ j → j < 17 → cS_z h' 48 j = tW (cS_z h 48) m j) ∧ (∀ o k, 62 ≤ o → o ≤ 141 → ¬ (62 + 4 * (rg_v h 60 1).toNatClampNeg ≤ o ∧ o ≤ 62 + 4 * (rg_v h 60 1).toNatClampNeg + 3) → h' o k = h o k)))
    (d : (¬ (0 ≤ m.toInt ∧ m.toInt < n2_z.toInt ∧ (((rg_v g 164 57) >>> (m &&& 31)) &&& 1).toInt = 0) ∧ r' = some (.int (-1)) ∧ (∀ o q, mQ o q → g' o q = g o q)) ∨ ((0 ≤ m.toInt ∧ m.toInt < n2_z.toInt ∧ (((rg_v g 164 57) >>> (m &&& 31)) &&& 1).toInt = 0) ∧ r' = some (.int (if m = y then 1 else 0)) ∧ mpu g g g' ∧ ∀ j, 0 ≤ j → j < 17 → mS g' 0 j = tW (mS g 0) m j)) : r = r' ∧ St 1 h' g' := by
  have e4_z : rg_v h 48 4 = rg_v g 164 57 := S.1.1 4 (by decide) (by decide)
  rw [← e4_z, ← nn] at d
  by_cases hv_z : (0 ≤ m.toInt ∧ m.toInt < n.toInt ∧ (((rg_v h 48 4) >>> (m &&& 31)) &&& 1).toInt = 0)
  · rcases c with ⟨v, -⟩ | ⟨-, cr, cp_z, cw, cfr⟩
    · exact absurd hv_z v
    · rcases d with ⟨v, -⟩ | ⟨-, dr, dp, dw⟩
      · exact absurd hv_z v
      · refine ⟨by rw [cr, dr, xy], ps_pair S cf_z mf m79_z (fun f f' e j j1_z j17_z => ?_) (fun o => ?_) cp_z (fun j _ j17_z => cw j (Nat.zero_le j) j17_z) cfr dp (fun j _ j17_z => dw j (Nat.zero_le j) j17_z)⟩
        · unfold tW
          rw [e 4 (by decide) (by decide), e j j1_z j17_z]
        · have wn : ∀ j, ¬ j = 4 → tW (cS_z h 48) m j = cS_z h 48 j := fun j hj_z => by
            unfold tW
            rw [if_neg hj_z]
          obtain ⟨o1_z, o3_z, o5_z⟩ := o
          unfold okF
          rw [wn 1 (by decide), wn 3 (by decide)]
          refine ⟨o1_z, o3_z, fun k hk_z => ?_⟩
          rw [wn (13 + k) (by omega), wn (5 + k) (by omega)]
          exact o5_z k hk_z
  · rcases c with ⟨-, cr, kp⟩ | ⟨v, -⟩
    · rcases d with ⟨-, dr, km⟩ | ⟨v, -⟩
      · exact ⟨by rw [cr, dr], St_kk (by decide) (fun o k _ => kp o k) km S⟩
      · exact absurd v hv_z
    · exact absurd v hv_z
theorem un_pair {h h' g g' : am_H} {r r' : Option Value} (S : St 1 h g) (cf_z : ∀ o k, (56 ≤ o ∧ o ≤ 59) ∨ (o = 0 ∧ k = 8) → rg_v h' o k = rg_v h o k) (mf : ∀ q, rg_v g' 201 q = rg_v g 201 q) (m79_z : rg_v g' 164 79 = rg_v g 164 79)
    (c : (rg_v h 60 2 = 0 ∧ r = some (.int (-1)) ∧ ∀ o k, h' o k = h o k) ∨ (¬ rg_v h 60 2 = 0 ∧ r = some (.int (rg_v h' 60 2)) ∧ (∀ j, j < 17 → cS_z h' 48 j = cS_z h (62 + 4 * (((rg_v h 60 1).toInt + 19) % 20).toNat) j) ∧ (rg_v h' 60 1).toInt = ((rg_v h 60 1).toInt + 19) % 20 ∧ (rg_v h' 60 2).toInt = (rg_v h 60 2).toInt - 1 ∧ ∀ o k, ¬ (48 ≤ o ∧ o ≤ 51) → ¬ (o = 60 ∧ (k = 1 ∨ k = 2)) → h' o k = h o k))
    (d : (rg_v g 164 77 = 0 ∧ r' = some (.int (-1)) ∧ (∀ o q, mQ o q → g' o q = g o q)) ∨ (¬ rg_v g 164 77 = 0 ∧ r' = some (.int (rg_v g' 164 77)) ∧ (rg_v g' 164 77).toInt = (rg_v g 164 77).toInt - 1 ∧ (∀ j, j < 17 → mS g' 0 j = rg_v g 200 (17 * ((rg_v g 164 77).toInt.toNat - 1) + j)) ∧ ∀ q, rg_v g' 200 q = rg_v g 200 q)) : r = r' ∧ St 1 h' g' := by
  have SS := S
  obtain ⟨s, ⟨⟨n0_z, n1_z⟩, ⟨z0_z, z1_z⟩, e, H4⟩, I⟩ := S
  rw [← e] at d
  rcases c with ⟨c1_z, cr, kp⟩ | ⟨c1_z, cr, cs, cn, cz, cf2_z⟩
  · rcases d with ⟨-, dr, km⟩ | ⟨v, -⟩
    · exact ⟨by rw [cr, dr], St_kk (by decide) (fun o k _ => kp o k) km SS⟩
    · exact absurd c1_z v
  · rcases d with ⟨v, -⟩ | ⟨-, dr, dz, ds, dq⟩
    · exact absurd v c1_z
    · have c0_z : ¬ (rg_v h 60 2).toInt = 0 := fun q => c1_z (Int32.toInt_inj.mp (q.trans (by decide)))
      have ez : rg_v h' 60 2 = rg_v g' 164 77 := Int32.toInt_inj.mp (by rw [cz, dz])
      refine ⟨by rw [cr, dr, ez], ?_, ⟨by rw [cn]; omega, by rw [cz]; omega, ez, fun j hj_z => ?_⟩, iR_e (by decide) cf_z mf m79_z I⟩
      · have p := H4 ((rg_v h 60 2).toInt.toNat - 1) (by omega)
        have eI : hI (rg_v h 60 1).toInt (rg_v h 60 2).toInt ((rg_v h 60 2).toInt.toNat - 1) = 62 + 4 * (((rg_v h 60 1).toInt + 19) % 20).toNat := by
          unfold hI
          omega
        rw [eI] at p
        exact sRec_e (by decide) (fun i _ hi_z => cs i hi_z) (fun i _ hi_z => ds i hi_z) p
      · rw [cz] at hj_z
        rw [cn, cz]
        have eI : hI (((rg_v h 60 1).toInt + 19) % 20) ((rg_v h 60 2).toInt - 1) j = hI (rg_v h 60 1).toInt (rg_v h 60 2).toInt j := by
          unfold hI
          omega
        rw [eI]
        have q := hI_r (nx := (rg_v h 60 1).toInt) (sz := (rg_v h 60 2).toInt) (j := j)
        exact sRec_e (by decide) (fun i _ _ => cS_e (fun o k a c => cf2_z o k (by omega) (by omega)) i) (fun i _ _ => dq _) (H4 j (by omega))
theorem kp_pair {h h' g g' : am_H} {r r' : Option Value} (S : St 1 h g)
    (c : r = some (.int (rg_v h 48 1)) ∧ rg_v h' 0 8 = 1 ∧ (∀ j, j < 17 → cS_z h' 56 j = cS_z h 48 j) ∧ ∀ o k, ¬ (56 ≤ o ∧ o ≤ 59) → ¬ (o = 0 ∧ k = 8) → h' o k = h o k)
    (d : r' = some (.int (rg_v g 189 0)) ∧ rg_v g' 164 79 = 1 ∧ (∀ j, j < 17 → rg_v g' 201 j = mS g 0 j) ∧ ∀ j, mS g' 0 j = mS g 0 j) (d77_z : rg_v g' 164 77 = rg_v g 164 77) (d200_z : ∀ q, rg_v g' 200 q = rg_v g 200 q) : r = r' ∧ St 1 h' g' := by
  obtain ⟨s, ⟨⟨n0_z, n1_z⟩, ⟨z0_z, z1_z⟩, e, H4⟩, I⟩ := S
  obtain ⟨cr, c8_z, ci_z, cf_z⟩ := c
  obtain ⟨dr, d79_z, di, dm⟩ := d
  have cv_z : ∀ o k, ¬ (56 ≤ o ∧ o ≤ 59) → ¬ (o = 0 ∧ k = 8) → rg_v h' o k = rg_v h o k := by
    intro o k a b
    unfold rg_v
    rw [cf_z o k a b]
  refine ⟨by rw [cr, dr, show rg_v h 48 1 = rg_v g 189 0 from s.1 1 (by decide) (by decide)], sRec_e (by decide) (fun i _ _ => cS_e (fun o k a b => cf_z o k (by omega) (by omega)) i) (fun i _ _ => dm i) s, ⟨?_, ?_, ?_, fun j hj_z => ?_⟩, by rw [c8_z, d79_z], fun _ => sRec_e (by decide) (fun i _ hi_z => ci_z i hi_z) (fun i _ hi_z => di i hi_z) s⟩
  · rw [cv_z 60 1 (by omega) (by omega)]
    exact ⟨n0_z, n1_z⟩
  · rw [cv_z 60 2 (by omega) (by omega)]
    exact ⟨z0_z, z1_z⟩
  · rw [cv_z 60 2 (by omega) (by omega), d77_z]
    exact e
  · rw [cv_z 60 2 (by omega) (by omega)] at hj_z ⊢
    rw [cv_z 60 1 (by omega) (by omega)]
    have q := hI_r (nx := (rg_v h 60 1).toInt) (sz := (rg_v h 60 2).toInt) (j := j)
    exact sRec_e (by decide) (fun i _ _ => cS_e (fun o k a c => cf_z o k (by omega) (by omega)) i) (fun i _ _ => d200_z _) (H4 j hj_z)
theorem bc_pair {h h' g g' : am_H} {r r' : Option Value} (S : St 1 h g) (cf_z : ∀ o k, (56 ≤ o ∧ o ≤ 59) ∨ (o = 0 ∧ k = 8) → rg_v h' o k = rg_v h o k) (mf : ∀ q, rg_v g' 201 q = rg_v g 201 q) (m79_z : rg_v g' 164 79 = rg_v g 164 79)
    (c : (rg_v h 0 8 = 0 ∧ r = some (.int (-1)) ∧ ∀ o k, h' o k = h o k) ∨ (¬ rg_v h 0 8 = 0 ∧ r = some (.int (rg_v h' 48 1)) ∧ (∀ j, j < 17 → cS_z h' 48 j = cS_z h 56 j) ∧ rg_v h' 60 2 = 0 ∧ ∀ o k, ¬ (48 ≤ o ∧ o ≤ 51) → ¬ (o = 60 ∧ k = 2) → h' o k = h o k))
    (d : (rg_v g 164 79 = 0 ∧ r' = some (.int (-1)) ∧ (∀ o q, mQ o q → g' o q = g o q)) ∨ (¬ rg_v g 164 79 = 0 ∧ r' = some (.int (rg_v g' 189 0)) ∧ rg_v g' 164 77 = 0 ∧ ∀ j, j < 17 → mS g' 0 j = rg_v g 201 j)) : r = r' ∧ St 1 h' g' := by
  have SS := S
  obtain ⟨s, ⟨⟨n0_z, n1_z⟩, ⟨z0_z, z1_z⟩, e, H4⟩, I⟩ := S
  have II := I
  obtain ⟨i1_z, i2_z⟩ := I
  rw [← i1_z] at d
  rcases c with ⟨c1_z, cr, kp⟩ | ⟨c1_z, cr, cs, cz, cf2_z⟩
  · rcases d with ⟨-, dr, km⟩ | ⟨v, -⟩
    · exact ⟨by rw [cr, dr], St_kk (by decide) (fun o k _ => kp o k) km SS⟩
    · exact absurd c1_z v
  · rcases d with ⟨v, -⟩ | ⟨-, dr, dz, ds⟩
    · exact absurd v c1_z
    · have sn : sRec 1 (cS_z h' 48) (mS g' 0) := sRec_e (by decide) (fun i _ hi_z => cs i hi_z) (fun i _ hi_z => ds i hi_z) (i2_z c1_z)
      have y0_z : (0 : Int32).toInt = 0 := by decide
      refine ⟨by rw [cr, dr, show rg_v h' 48 1 = rg_v g' 189 0 from sn.1 1 (by decide) (by decide)], sn, ⟨?_, by rw [cz]; decide, by rw [cz, dz], fun j hj_z => ?_⟩, iR_e (by decide) cf_z mf m79_z II⟩
      · have q : rg_v h' 60 1 = rg_v h 60 1 := by
          unfold rg_v
          rw [cf2_z 60 1 (by omega) (by omega)]
        rw [q]
        exact ⟨n0_z, n1_z⟩
      · rw [cz, y0_z] at hj_z
        omega
theorem ft_245 {n : Nat} {h h' : am_H} {r : Option Value}   (hc_z : rn n am_m245 0 (lv_args 0 [.ref 164]) [] h r h') : (((0 : Int32).toInt ≤ (rg_v h 164 74).toInt) ∧ r = some (.int (rg_v h 164 74)) ∧ h' = h) ∨ (((rg_v h 164 74).toInt < (0 : Int32).toInt) ∧ r = some (.int (rg_v h 164 73)) ∧ h' = h) := by
  have g0_z : am_get (lv_args 0 [.ref 164]) 0 = some (.ref 164) := rfl
  replace hc_z := rn_aload_n (am_cur_of (i := (0, 1, .aload_n 0, (0, 0, 0), 0)) (by decide +kernel)) g0_z hc_z
  replace hc_z := rn_getI (v := rg_v h 164 74) (am_cur_of (i := (1, 3, .getfield 118, (12, 74, 1458), 0)) (by decide +kernel)) (by decide +kernel) rfl hc_z
  replace hc_z := rn_if (am_cur_of (i := (4, 3, .ifCond .ge 10, (6, 0, 0), 0)) (by decide +kernel)) hc_z
  rcases hc_z with ⟨b122_z, hc_z⟩ | ⟨b122_z, hc_z⟩
  · replace b122_z : (0 : Int32).toInt ≤ (rg_v h 164 74).toInt := b122_z
    replace hc_z := rn_aload_n (am_cur_of (i := (14, 1, .aload_n 0, (0, 0, 0), 0)) (by decide +kernel)) g0_z hc_z
    replace hc_z := rn_getI (v := rg_v h 164 74) (am_cur_of (i := (15, 3, .getfield 118, (12, 74, 1458), 0)) (by decide +kernel)) (by decide +kernel) rfl hc_z
    replace hc_z := rn_iret (am_cur_of (i := (18, 1, .ireturn, (0, 0, 0), 0)) (by decide +kernel)) hc_z
    obtain ⟨e123_z, e124_z⟩ := hc_z
    exact Or.inl ⟨b122_z, e123_z, e124_z⟩
  · replace b122_z : (rg_v h 164 74).toInt < (0 : Int32).toInt := b122_z
    replace hc_z := rn_aload_n (am_cur_of (i := (7, 1, .aload_n 0, (0, 0, 0), 0)) (by decide +kernel)) g0_z hc_z
    replace hc_z := rn_getI (v := rg_v h 164 73) (am_cur_of (i := (8, 3, .getfield 368, (12, 73, 1457), 0)) (by decide +kernel)) (by decide +kernel) rfl hc_z
    replace hc_z := rn_goto (am_cur_of (i := (11, 3, .goto 7, (8, 0, 0), 0)) (by decide +kernel)) hc_z
    replace hc_z := rn_iret (am_cur_of (i := (18, 1, .ireturn, (0, 0, 0), 0)) (by decide +kernel)) hc_z
    obtain ⟨e125_z, e126_z⟩ := hc_z
    exact Or.inr (⟨b122_z, e125_z, e126_z⟩)
theorem ft_c {r : Option Value} {g' : am_H} {hd_z : Int32} : ∀ (f : Nat) (x i : Int32) (ls : am_L) (g : am_H), am_get ls 0 = some (.ref 164) → am_get ls 1 = some (.int x) → am_get ls 2 = some (.int hd_z) → am_get ls 3 = some (.int i) → rn f am_m244 59 ls [] g r g' → rg_v g' 164 57 = hd_z := by
  intro f
  induction f with
  | zero => intro x i ls g g0_z g1_z g2_z g3_z hm_z; exact absurd hm_z rn_0
  | succ f ih_z =>
    intro x i ls g g0_z g1_z g2_z g3_z hm_z
    have z0_z : (0 : Int32).toInt = 0 := by decide
    replace hm_z := rn_iload_n (am_cur_of (i := (95, 1, .iload_n 3, (0, 0, 0), 0)) (by decide +kernel)) g3_z hm_z
    replace hm_z := rn_aload_n (am_cur_of (i := (96, 1, .aload_n 0, (0, 0, 0), 0)) (by decide +kernel)) g0_z hm_z
    replace hm_z := rn_getI (v := rg_v g 164 14) (am_cur_of (i := (97, 3, .getfield 225, (12, 14, 1398), 0)) (by decide +kernel)) (by decide +kernel) rfl hm_z
    replace hm_z := rn_cmp (am_cur_of (i := (100, 3, .if_icmp .gt 31, (79, 0, 0), 0)) (by decide +kernel)) hm_z
    rcases hm_z with ⟨b127_z, hm_z⟩ | ⟨b127_z, hm_z⟩
    · replace b127_z : (rg_v g 164 14).toInt < i.toInt := b127_z
      replace hm_z := rn_aload_n (am_cur_of (i := (131, 1, .aload_n 0, (0, 0, 0), 0)) (by decide +kernel)) g0_z hm_z
      replace hm_z := rn_iload_n (am_cur_of (i := (132, 1, .iload_n 2, (0, 0, 0), 0)) (by decide +kernel)) g2_z hm_z
      replace hm_z := rn_put (am_cur_of (i := (133, 3, .putfield 349, (12, 57, 1441), 0)) (by decide +kernel)) (by decide +kernel) hm_z
      replace hm_z := rn_aload_n (am_cur_of (i := (136, 1, .aload_n 0, (0, 0, 0), 0)) (by decide +kernel)) g0_z hm_z
      replace hm_z := rn_iconst (w := (-1)) (am_cur_of (i := (137, 1, .iconst (-1), (0, 0, 0), 0)) (by decide +kernel)) (by decide) hm_z
      replace hm_z := rn_put (am_cur_of (i := (138, 3, .putfield 106, (12, 62, 1446), 0)) (by decide +kernel)) (by decide +kernel) hm_z
      replace hm_z := rn_iload_n (am_cur_of (i := (141, 1, .iload_n 1, (0, 0, 0), 0)) (by decide +kernel)) g1_z hm_z
      replace hm_z := rn_iret (am_cur_of (i := (142, 1, .ireturn, (0, 0, 0), 0)) (by decide +kernel)) hm_z
      obtain ⟨e128_z, e129_z⟩ := hm_z
      rw [e129_z]
      exact ((rg_v_other (by omega)).trans (rg_v_self))
    · replace b127_z : i.toInt ≤ (rg_v g 164 14).toInt := b127_z
      replace hm_z := rn_aload_n (am_cur_of (i := (103, 1, .aload_n 0, (0, 0, 0), 0)) (by decide +kernel)) g0_z hm_z
      replace hm_z := rn_iload_n (am_cur_of (i := (104, 1, .iload_n 3, (0, 0, 0), 0)) (by decide +kernel)) g3_z hm_z
      replace hm_z := rn_put (am_cur_of (i := (105, 3, .putfield 106, (12, 62, 1446), 0)) (by decide +kernel)) (by decide +kernel) hm_z
      replace hm_z := rn_iload_n (am_cur_of (i := (108, 1, .iload_n 1, (0, 0, 0), 0)) (by decide +kernel)) g1_z hm_z
      replace hm_z := rn_aload_n (am_cur_of (i := (109, 1, .aload_n 0, (0, 0, 0), 0)) (by decide +kernel)) g0_z hm_z
      replace hm_z := rn_callV (M' := am_m246) (o := 164) (ar := []) (rest := [.int x]) (L := lv_args 0 [.ref 164]) (am_cur_of (i := (110, 3, .invokevirtual 527, (246, 2015, 3), 0)) (by decide +kernel)) rfl rfl rfl rfl hm_z
      obtain ⟨r130_z, h131_z, q132_z, hm_z⟩ := hm_z
      obtain ⟨v133_z, rfl⟩ := rn_ret (M := am_m246) rfl (by decide) q132_z
      replace hm_z : rn _ _ _ _ [.int v133_z, .int x] _ _ _ := hm_z
      replace hm_z := rn_if (am_cur_of (i := (113, 3, .ifCond .eq 9, (74, 0, 0), 0)) (by decide +kernel)) hm_z
      rcases hm_z with ⟨b134_z, hm_z⟩ | ⟨b134_z, hm_z⟩
      · replace b134_z : v133_z = (0 : Int32) ∧ v133_z.toInt = (0 : Int32).toInt := b134_z
        replace hm_z := rn_iconst (w := 0) (am_cur_of (i := (122, 1, .iconst 0, (0, 0, 0), 0)) (by decide +kernel)) (by decide) hm_z
        replace hm_z := rn_ior (w := x ||| 0) (am_cur_of (i := (123, 1, .ior, (0, 0, 0), 0)) (by decide +kernel)) rfl hm_z
        replace hm_z := rn_istore_n (am_cur_of (i := (124, 1, .istore_n 1, (0, 0, 0), 0)) (by decide +kernel)) hm_z
        obtain ⟨_, s135_z, s136_z, g1_z, hm_z⟩ := hm_z
        replace g0_z := s135_z 0 _ (by decide) rfl g0_z
        replace g2_z := s135_z 2 _ (by decide) rfl g2_z
        replace g3_z := s135_z 3 _ (by decide) rfl g3_z
        clear s135_z s136_z
        replace hm_z := rn_iinc (w := i + 1) (am_cur_of (i := (125, 3, .iinc 3 1, (0, 0, 0), 0)) (by decide +kernel)) g3_z rfl hm_z
        obtain ⟨_, s137_z, s138_z, g3_z, hm_z⟩ := hm_z
        replace g0_z := s137_z 0 _ (by decide) rfl g0_z
        replace g1_z := s137_z 1 _ (by decide) rfl g1_z
        replace g2_z := s137_z 2 _ (by decide) rfl g2_z
        clear s137_z s138_z
        replace hm_z := rn_gotoL (am_cur_of (i := (128, 3, .goto (-33), (59, 0, 0), 0)) (by decide +kernel)) hm_z
        exact ih_z _ _ _ _ g0_z g1_z g2_z g3_z hm_z
      · replace b134_z : ¬ v133_z = (0 : Int32) ∧ ¬ v133_z.toInt = (0 : Int32).toInt := b134_z
        replace hm_z := rn_iconst (w := 1) (am_cur_of (i := (116, 1, .iconst 1, (0, 0, 0), 0)) (by decide +kernel)) (by decide) hm_z
        replace hm_z := rn_iload_n (am_cur_of (i := (117, 1, .iload_n 3, (0, 0, 0), 0)) (by decide +kernel)) g3_z hm_z
        replace hm_z := rn_ishl (w := (1 : Int32) <<< (i &&& 31)) (am_cur_of (i := (118, 1, .ishl, (0, 0, 0), 0)) (by decide +kernel)) rfl hm_z
        replace hm_z := rn_goto (am_cur_of (i := (119, 3, .goto 4, (75, 0, 0), 0)) (by decide +kernel)) hm_z
        replace hm_z := rn_ior (w := x ||| ((1 : Int32) <<< (i &&& 31))) (am_cur_of (i := (123, 1, .ior, (0, 0, 0), 0)) (by decide +kernel)) rfl hm_z
        replace hm_z := rn_istore_n (am_cur_of (i := (124, 1, .istore_n 1, (0, 0, 0), 0)) (by decide +kernel)) hm_z
        obtain ⟨_, s139_z, s140_z, g1_z, hm_z⟩ := hm_z
        replace g0_z := s139_z 0 _ (by decide) rfl g0_z
        replace g2_z := s139_z 2 _ (by decide) rfl g2_z
        replace g3_z := s139_z 3 _ (by decide) rfl g3_z
        clear s139_z s140_z
        replace hm_z := rn_iinc (w := i + 1) (am_cur_of (i := (125, 3, .iinc 3 1, (0, 0, 0), 0)) (by decide +kernel)) g3_z rfl hm_z
        obtain ⟨_, s141_z, s142_z, g3_z, hm_z⟩ := hm_z
        replace g0_z := s141_z 0 _ (by decide) rfl g0_z
        replace g1_z := s141_z 1 _ (by decide) rfl g1_z
        replace g2_z := s141_z 2 _ (by decide) rfl g2_z
        clear s141_z s142_z
        replace hm_z := rn_gotoL (am_cur_of (i := (128, 3, .goto (-33), (59, 0, 0), 0)) (by decide +kernel)) hm_z
        exact ih_z _ _ _ _ g0_z g1_z g2_z g3_z hm_z
theorem ft_b {r : Option Value} {g' : am_H} : ∀ (f : Nat) (i : Int32) (ls : am_L) (g : am_H), am_get ls 0 = some (.ref 164) → am_get ls 1 = some (.int i) → rn f am_m244 21 ls [] g r g' → rg_v g' 164 57 = rg_v g 164 57 := by
  intro f
  induction f with
  | zero => intro i ls g g0_z g1_z hm_z; exact absurd hm_z rn_0
  | succ f ih_z =>
    intro i ls g g0_z g1_z hm_z
    have z0_z : (0 : Int32).toInt = 0 := by decide
    replace hm_z := rn_iload_n (am_cur_of (i := (35, 1, .iload_n 1, (0, 0, 0), 0)) (by decide +kernel)) g1_z hm_z
    replace hm_z := rn_if (am_cur_of (i := (36, 3, .ifCond .lt 45, (49, 0, 0), 0)) (by decide +kernel)) hm_z
    rcases hm_z with ⟨b143_z, hm_z⟩ | ⟨b143_z, hm_z⟩
    · replace b143_z : i.toInt < (0 : Int32).toInt := b143_z
      replace hm_z := rn_iconst (w := 0) (am_cur_of (i := (81, 1, .iconst 0, (0, 0, 0), 0)) (by decide +kernel)) (by decide) hm_z
      replace hm_z := rn_istore_n (am_cur_of (i := (82, 1, .istore_n 1, (0, 0, 0), 0)) (by decide +kernel)) hm_z
      obtain ⟨_, s144_z, s145_z, g1_z, hm_z⟩ := hm_z
      replace g0_z := s144_z 0 _ (by decide) rfl g0_z
      clear s144_z s145_z
      replace hm_z := rn_aload_n (am_cur_of (i := (83, 1, .aload_n 0, (0, 0, 0), 0)) (by decide +kernel)) g0_z hm_z
      replace hm_z := rn_getI (v := rg_v g 164 57) (am_cur_of (i := (84, 3, .getfield 349, (12, 57, 1441), 0)) (by decide +kernel)) (by decide +kernel) rfl hm_z
      replace hm_z := rn_istore_n (am_cur_of (i := (87, 1, .istore_n 2, (0, 0, 0), 0)) (by decide +kernel)) hm_z
      obtain ⟨_, s146_z, s147_z, g2_z, hm_z⟩ := hm_z
      replace g0_z := s146_z 0 _ (by decide) rfl g0_z
      replace g1_z := s146_z 1 _ (by decide) rfl g1_z
      clear s146_z s147_z
      replace hm_z := rn_aload_n (am_cur_of (i := (88, 1, .aload_n 0, (0, 0, 0), 0)) (by decide +kernel)) g0_z hm_z
      replace hm_z := rn_iconst (w := 0) (am_cur_of (i := (89, 1, .iconst 0, (0, 0, 0), 0)) (by decide +kernel)) (by decide) hm_z
      replace hm_z := rn_put (am_cur_of (i := (90, 3, .putfield 349, (12, 57, 1441), 0)) (by decide +kernel)) (by decide +kernel) hm_z
      replace hm_z := rn_iconst (w := 0) (am_cur_of (i := (93, 1, .iconst 0, (0, 0, 0), 0)) (by decide +kernel)) (by decide) hm_z
      replace hm_z := rn_istore_n (am_cur_of (i := (94, 1, .istore_n 3, (0, 0, 0), 0)) (by decide +kernel)) hm_z
      obtain ⟨_, s148_z, s149_z, g3_z, hm_z⟩ := hm_z
      replace g0_z := s148_z 0 _ (by decide) rfl g0_z
      replace g1_z := s148_z 1 _ (by decide) rfl g1_z
      replace g2_z := s148_z 2 _ (by decide) rfl g2_z
      clear s148_z s149_z
      exact ft_c _ _ _ _ _ g0_z g1_z g2_z g3_z hm_z
    · replace b143_z : (0 : Int32).toInt ≤ i.toInt := b143_z
      replace hm_z := rn_aload_n (am_cur_of (i := (39, 1, .aload_n 0, (0, 0, 0), 0)) (by decide +kernel)) g0_z hm_z
      replace hm_z := rn_getR (x := 199) (am_cur_of (i := (40, 3, .getfield 124, (12, 76, 1460), 0)) (by decide +kernel)) (by decide +kernel) hm_z
      replace hm_z := rn_iload_n (am_cur_of (i := (43, 1, .iload_n 1, (0, 0, 0), 0)) (by decide +kernel)) g1_z hm_z
      replace hm_z := rn_baload (N := 24) (q := i.toNatClampNeg) (v := rg_v g 199 i.toNatClampNeg) (am_cur_of (i := (44, 1, .baload, (0, 0, 0), 0)) (by decide +kernel)) (by decide +kernel) rfl rfl hm_z
      obtain ⟨p150_z, hm_z⟩ := hm_z
      replace hm_z := rn_if (am_cur_of (i := (45, 3, .ifCond .eq 30, (47, 0, 0), 0)) (by decide +kernel)) hm_z
      rcases hm_z with ⟨b151_z, hm_z⟩ | ⟨b151_z, hm_z⟩
      · replace b151_z : (rg_v g 199 i.toNatClampNeg) = (0 : Int32) ∧ (rg_v g 199 i.toNatClampNeg).toInt = (0 : Int32).toInt := b151_z
        replace hm_z := rn_iinc (w := i + (-1)) (am_cur_of (i := (75, 3, .iinc 1 (-1), (0, 0, 0), 0)) (by decide +kernel)) g1_z (congrArg (fun z => i + z) (show Int32.ofInt (-1) = (-1) by decide)) hm_z
        obtain ⟨_, s152_z, s153_z, g1_z, hm_z⟩ := hm_z
        replace g0_z := s152_z 0 _ (by decide) rfl g0_z
        clear s152_z s153_z
        replace hm_z := rn_gotoL (am_cur_of (i := (78, 3, .goto (-43), (21, 0, 0), 0)) (by decide +kernel)) hm_z
        exact (ih_z _ _ _ g0_z g1_z hm_z).trans (rfl)
      · replace b151_z : ¬ (rg_v g 199 i.toNatClampNeg) = (0 : Int32) ∧ ¬ (rg_v g 199 i.toNatClampNeg).toInt = (0 : Int32).toInt := b151_z
        replace hm_z := rn_aload_n (am_cur_of (i := (48, 1, .aload_n 0, (0, 0, 0), 0)) (by decide +kernel)) g0_z hm_z
        replace hm_z := rn_getR (x := 198) (am_cur_of (i := (49, 3, .getfield 121, (12, 75, 1459), 0)) (by decide +kernel)) (by decide +kernel) hm_z
        replace hm_z := rn_iconst (w := 4) (am_cur_of (i := (52, 1, .iconst 4, (0, 0, 0), 0)) (by decide +kernel)) (by decide) hm_z
        replace hm_z := rn_iload_n (am_cur_of (i := (53, 1, .iload_n 1, (0, 0, 0), 0)) (by decide +kernel)) g1_z hm_z
        replace hm_z := rn_imul (w := (4 : Int32) * i) (am_cur_of (i := (54, 1, .imul, (0, 0, 0), 0)) (by decide +kernel)) rfl hm_z
        replace hm_z := rn_iaload (N := 96) (q := ((4 : Int32) * i).toNatClampNeg) (v := rg_v g 198 (((4 : Int32) * i).toNatClampNeg)) (am_cur_of (i := (55, 1, .iaload, (0, 0, 0), 0)) (by decide +kernel)) (by decide +kernel) rfl rfl hm_z
        obtain ⟨p154_z, hm_z⟩ := hm_z
        replace hm_z := rn_if (am_cur_of (i := (56, 3, .ifCond .ge 19, (47, 0, 0), 0)) (by decide +kernel)) hm_z
        rcases hm_z with ⟨b155_z, hm_z⟩ | ⟨b155_z, hm_z⟩
        · replace b155_z : (0 : Int32).toInt ≤ (rg_v g 198 (((4 : Int32) * i).toNatClampNeg)).toInt := b155_z
          replace hm_z := rn_iinc (w := i + (-1)) (am_cur_of (i := (75, 3, .iinc 1 (-1), (0, 0, 0), 0)) (by decide +kernel)) g1_z (congrArg (fun z => i + z) (show Int32.ofInt (-1) = (-1) by decide)) hm_z
          obtain ⟨_, s156_z, s157_z, g1_z, hm_z⟩ := hm_z
          replace g0_z := s156_z 0 _ (by decide) rfl g0_z
          clear s156_z s157_z
          replace hm_z := rn_gotoL (am_cur_of (i := (78, 3, .goto (-43), (21, 0, 0), 0)) (by decide +kernel)) hm_z
          exact (ih_z _ _ _ g0_z g1_z hm_z).trans (rfl)
        · replace b155_z : (rg_v g 198 (((4 : Int32) * i).toNatClampNeg)).toInt < (0 : Int32).toInt := b155_z
          replace hm_z := rn_aload_n (am_cur_of (i := (59, 1, .aload_n 0, (0, 0, 0), 0)) (by decide +kernel)) g0_z hm_z
          replace hm_z := rn_getR (x := 199) (am_cur_of (i := (60, 3, .getfield 124, (12, 76, 1460), 0)) (by decide +kernel)) (by decide +kernel) hm_z
          replace hm_z := rn_aload_n (am_cur_of (i := (63, 1, .aload_n 0, (0, 0, 0), 0)) (by decide +kernel)) g0_z hm_z
          replace hm_z := rn_getR (x := 198) (am_cur_of (i := (64, 3, .getfield 121, (12, 75, 1459), 0)) (by decide +kernel)) (by decide +kernel) hm_z
          replace hm_z := rn_iconst (w := 4) (am_cur_of (i := (67, 1, .iconst 4, (0, 0, 0), 0)) (by decide +kernel)) (by decide) hm_z
          replace hm_z := rn_iload_n (am_cur_of (i := (68, 1, .iload_n 1, (0, 0, 0), 0)) (by decide +kernel)) g1_z hm_z
          replace hm_z := rn_imul (w := (4 : Int32) * i) (am_cur_of (i := (69, 1, .imul, (0, 0, 0), 0)) (by decide +kernel)) rfl hm_z
          replace hm_z := rn_iconst (w := 1) (am_cur_of (i := (70, 1, .iconst 1, (0, 0, 0), 0)) (by decide +kernel)) (by decide) hm_z
          replace hm_z := rn_iadd (w := ((4 : Int32) * i) + 1) (am_cur_of (i := (71, 1, .iadd, (0, 0, 0), 0)) (by decide +kernel)) rfl hm_z
          replace hm_z := rn_iaload (N := 96) (q := (((4 : Int32) * i) + 1).toNatClampNeg) (v := rg_v g 198 ((((4 : Int32) * i) + 1).toNatClampNeg)) (am_cur_of (i := (72, 1, .iaload, (0, 0, 0), 0)) (by decide +kernel)) (by decide +kernel) rfl rfl hm_z
          obtain ⟨p158_z, hm_z⟩ := hm_z
          replace hm_z := rn_iconst (w := 0) (am_cur_of (i := (73, 1, .iconst 0, (0, 0, 0), 0)) (by decide +kernel)) (by decide) hm_z
          replace hm_z := rn_bastore (N := 24) (q := (rg_v g 198 ((((4 : Int32) * i) + 1).toNatClampNeg)).toNatClampNeg) (am_cur_of (i := (74, 1, .bastore, (0, 0, 0), 0)) (by decide +kernel)) (by decide +kernel) rfl hm_z
          obtain ⟨p159_z, hm_z⟩ := hm_z
          replace hm_z := rn_iinc (w := i + (-1)) (am_cur_of (i := (75, 3, .iinc 1 (-1), (0, 0, 0), 0)) (by decide +kernel)) g1_z (congrArg (fun z => i + z) (show Int32.ofInt (-1) = (-1) by decide)) hm_z
          obtain ⟨_, s160_z, s161_z, g1_z, hm_z⟩ := hm_z
          replace g0_z := s160_z 0 _ (by decide) rfl g0_z
          clear s160_z s161_z
          replace hm_z := rn_gotoL (am_cur_of (i := (78, 3, .goto (-43), (21, 0, 0), 0)) (by decide +kernel)) hm_z
          exact (ih_z _ _ _ g0_z g1_z hm_z).trans ((rg_v_other (by omega)).trans (rfl))
theorem ft_a {r : Option Value} {g' : am_H} : ∀ (f : Nat) (i : Int32) (ls : am_L) (g : am_H), am_get ls 0 = some (.ref 164) → am_get ls 1 = some (.int i) → rn f am_m244 5 ls [] g r g' → rg_v g' 164 57 = rg_v g 164 57 := by
  intro f
  induction f with
  | zero => intro i ls g g0_z g1_z hm_z; exact absurd hm_z rn_0
  | succ f ih_z =>
    intro i ls g g0_z g1_z hm_z
    have z0_z : (0 : Int32).toInt = 0 := by decide
    replace hm_z := rn_iload_n (am_cur_of (i := (7, 1, .iload_n 1, (0, 0, 0), 0)) (by decide +kernel)) g1_z hm_z
    replace hm_z := rn_aload_n (am_cur_of (i := (8, 1, .aload_n 0, (0, 0, 0), 0)) (by decide +kernel)) g0_z hm_z
    replace hm_z := rn_callV (M' := am_m245) (o := 164) (ar := []) (rest := [.int i]) (L := lv_args 0 [.ref 164]) (am_cur_of (i := (9, 3, .invokevirtual 524, (245, 2011, 3), 0)) (by decide +kernel)) rfl rfl rfl rfl hm_z
    obtain ⟨r162_z, h163_z, q164_z, hm_z⟩ := hm_z
    rcases ft_245 q164_z with ⟨b165_z, rfl, y166_z⟩ | ⟨b167_z, rfl, y168_z⟩
    · replace y166_z := y166_z.symm
      subst y166_z
      replace b165_z : (0 : Int32).toInt ≤ ((rg_v g 164 74)).toInt := b165_z
      replace hm_z : rn _ _ _ _ [.int (rg_v g 164 74), .int i] _ _ _ := hm_z
      replace hm_z := rn_cmp (am_cur_of (i := (12, 3, .if_icmp .ge 16, (16, 0, 0), 0)) (by decide +kernel)) hm_z
      rcases hm_z with ⟨b169_z, hm_z⟩ | ⟨b169_z, hm_z⟩
      · replace b169_z : (rg_v g 164 74).toInt ≤ i.toInt := b169_z
        replace hm_z := rn_aload_n (am_cur_of (i := (28, 1, .aload_n 0, (0, 0, 0), 0)) (by decide +kernel)) g0_z hm_z
        replace hm_z := rn_callV (M' := am_m245) (o := 164) (ar := []) (rest := []) (L := lv_args 0 [.ref 164]) (am_cur_of (i := (29, 3, .invokevirtual 524, (245, 2011, 3), 0)) (by decide +kernel)) rfl rfl rfl rfl hm_z
        obtain ⟨r170_z, h171_z, q172_z, hm_z⟩ := hm_z
        rcases ft_245 q172_z with ⟨b173_z, rfl, y174_z⟩ | ⟨b175_z, rfl, y176_z⟩
        · replace y174_z := y174_z.symm
          subst y174_z
          replace b173_z : (0 : Int32).toInt ≤ ((rg_v g 164 74)).toInt := b173_z
          replace hm_z : rn _ _ _ _ [.int (rg_v g 164 74)] _ _ _ := hm_z
          replace hm_z := rn_iconst (w := 1) (am_cur_of (i := (32, 1, .iconst 1, (0, 0, 0), 0)) (by decide +kernel)) (by decide) hm_z
          replace hm_z := rn_isub (w := (rg_v g 164 74) - 1) (am_cur_of (i := (33, 1, .isub, (0, 0, 0), 0)) (by decide +kernel)) rfl hm_z
          replace hm_z := rn_istore_n (am_cur_of (i := (34, 1, .istore_n 1, (0, 0, 0), 0)) (by decide +kernel)) hm_z
          obtain ⟨_, s177_z, s178_z, g1_z, hm_z⟩ := hm_z
          replace g0_z := s177_z 0 _ (by decide) rfl g0_z
          clear s177_z s178_z
          exact (ft_b _ _ _ _ g0_z g1_z hm_z).trans (rfl)
        · replace y176_z := y176_z.symm
          subst y176_z
          replace b175_z : ((rg_v g 164 74)).toInt < (0 : Int32).toInt := b175_z
          replace hm_z : rn _ _ _ _ [.int (rg_v g 164 73)] _ _ _ := hm_z
          replace hm_z := rn_iconst (w := 1) (am_cur_of (i := (32, 1, .iconst 1, (0, 0, 0), 0)) (by decide +kernel)) (by decide) hm_z
          replace hm_z := rn_isub (w := (rg_v g 164 73) - 1) (am_cur_of (i := (33, 1, .isub, (0, 0, 0), 0)) (by decide +kernel)) rfl hm_z
          replace hm_z := rn_istore_n (am_cur_of (i := (34, 1, .istore_n 1, (0, 0, 0), 0)) (by decide +kernel)) hm_z
          obtain ⟨_, s179_z, s180_z, g1_z, hm_z⟩ := hm_z
          replace g0_z := s179_z 0 _ (by decide) rfl g0_z
          clear s179_z s180_z
          exact (ft_b _ _ _ _ g0_z g1_z hm_z).trans (rfl)
      · replace b169_z : i.toInt < (rg_v g 164 74).toInt := b169_z
        replace hm_z := rn_aload_n (am_cur_of (i := (15, 1, .aload_n 0, (0, 0, 0), 0)) (by decide +kernel)) g0_z hm_z
        replace hm_z := rn_getR (x := 199) (am_cur_of (i := (16, 3, .getfield 124, (12, 76, 1460), 0)) (by decide +kernel)) (by decide +kernel) hm_z
        replace hm_z := rn_iload_n (am_cur_of (i := (19, 1, .iload_n 1, (0, 0, 0), 0)) (by decide +kernel)) g1_z hm_z
        replace hm_z := rn_iconst (w := 1) (am_cur_of (i := (20, 1, .iconst 1, (0, 0, 0), 0)) (by decide +kernel)) (by decide) hm_z
        replace hm_z := rn_bastore (N := 24) (q := i.toNatClampNeg) (am_cur_of (i := (21, 1, .bastore, (0, 0, 0), 0)) (by decide +kernel)) (by decide +kernel) rfl hm_z
        obtain ⟨p181_z, hm_z⟩ := hm_z
        replace hm_z := rn_iinc (w := i + 1) (am_cur_of (i := (22, 3, .iinc 1 1, (0, 0, 0), 0)) (by decide +kernel)) g1_z rfl hm_z
        obtain ⟨_, s182_z, s183_z, g1_z, hm_z⟩ := hm_z
        replace g0_z := s182_z 0 _ (by decide) rfl g0_z
        clear s182_z s183_z
        replace hm_z := rn_gotoL (am_cur_of (i := (25, 3, .goto (-18), (5, 0, 0), 0)) (by decide +kernel)) hm_z
        exact (ih_z _ _ _ g0_z g1_z hm_z).trans ((rg_v_other (by omega)).trans (rfl))
    · replace y168_z := y168_z.symm
      subst y168_z
      replace b167_z : ((rg_v g 164 74)).toInt < (0 : Int32).toInt := b167_z
      replace hm_z : rn _ _ _ _ [.int (rg_v g 164 73), .int i] _ _ _ := hm_z
      replace hm_z := rn_cmp (am_cur_of (i := (12, 3, .if_icmp .ge 16, (16, 0, 0), 0)) (by decide +kernel)) hm_z
      rcases hm_z with ⟨b184_z, hm_z⟩ | ⟨b184_z, hm_z⟩
      · replace b184_z : (rg_v g 164 73).toInt ≤ i.toInt := b184_z
        replace hm_z := rn_aload_n (am_cur_of (i := (28, 1, .aload_n 0, (0, 0, 0), 0)) (by decide +kernel)) g0_z hm_z
        replace hm_z := rn_callV (M' := am_m245) (o := 164) (ar := []) (rest := []) (L := lv_args 0 [.ref 164]) (am_cur_of (i := (29, 3, .invokevirtual 524, (245, 2011, 3), 0)) (by decide +kernel)) rfl rfl rfl rfl hm_z
        obtain ⟨r185_z, h186_z, q187_z, hm_z⟩ := hm_z
        rcases ft_245 q187_z with ⟨b188_z, rfl, y189_z⟩ | ⟨b190_z, rfl, y191_z⟩
        · replace y189_z := y189_z.symm
          subst y189_z
          replace b188_z : (0 : Int32).toInt ≤ ((rg_v g 164 74)).toInt := b188_z
          replace hm_z : rn _ _ _ _ [.int (rg_v g 164 74)] _ _ _ := hm_z
          replace hm_z := rn_iconst (w := 1) (am_cur_of (i := (32, 1, .iconst 1, (0, 0, 0), 0)) (by decide +kernel)) (by decide) hm_z
          replace hm_z := rn_isub (w := (rg_v g 164 74) - 1) (am_cur_of (i := (33, 1, .isub, (0, 0, 0), 0)) (by decide +kernel)) rfl hm_z
          replace hm_z := rn_istore_n (am_cur_of (i := (34, 1, .istore_n 1, (0, 0, 0), 0)) (by decide +kernel)) hm_z
          obtain ⟨_, s192_z, s193_z, g1_z, hm_z⟩ := hm_z
          replace g0_z := s192_z 0 _ (by decide) rfl g0_z
          clear s192_z s193_z
          exact (ft_b _ _ _ _ g0_z g1_z hm_z).trans (rfl)
        · replace y191_z := y191_z.symm
          subst y191_z
          replace b190_z : ((rg_v g 164 74)).toInt < (0 : Int32).toInt := b190_z
          replace hm_z : rn _ _ _ _ [.int (rg_v g 164 73)] _ _ _ := hm_z
          replace hm_z := rn_iconst (w := 1) (am_cur_of (i := (32, 1, .iconst 1, (0, 0, 0), 0)) (by decide +kernel)) (by decide) hm_z
          replace hm_z := rn_isub (w := (rg_v g 164 73) - 1) (am_cur_of (i := (33, 1, .isub, (0, 0, 0), 0)) (by decide +kernel)) rfl hm_z
          replace hm_z := rn_istore_n (am_cur_of (i := (34, 1, .istore_n 1, (0, 0, 0), 0)) (by decide +kernel)) hm_z
          obtain ⟨_, s194_z, s195_z, g1_z, hm_z⟩ := hm_z
          replace g0_z := s194_z 0 _ (by decide) rfl g0_z
          clear s194_z s195_z
          exact (ft_b _ _ _ _ g0_z g1_z hm_z).trans (rfl)
      · replace b184_z : i.toInt < (rg_v g 164 73).toInt := b184_z
        replace hm_z := rn_aload_n (am_cur_of (i := (15, 1, .aload_n 0, (0, 0, 0), 0)) (by decide +kernel)) g0_z hm_z
        replace hm_z := rn_getR (x := 199) (am_cur_of (i := (16, 3, .getfield 124, (12, 76, 1460), 0)) (by decide +kernel)) (by decide +kernel) hm_z
        replace hm_z := rn_iload_n (am_cur_of (i := (19, 1, .iload_n 1, (0, 0, 0), 0)) (by decide +kernel)) g1_z hm_z
        replace hm_z := rn_iconst (w := 1) (am_cur_of (i := (20, 1, .iconst 1, (0, 0, 0), 0)) (by decide +kernel)) (by decide) hm_z
        replace hm_z := rn_bastore (N := 24) (q := i.toNatClampNeg) (am_cur_of (i := (21, 1, .bastore, (0, 0, 0), 0)) (by decide +kernel)) (by decide +kernel) rfl hm_z
        obtain ⟨p196_z, hm_z⟩ := hm_z
        replace hm_z := rn_iinc (w := i + 1) (am_cur_of (i := (22, 3, .iinc 1 1, (0, 0, 0), 0)) (by decide +kernel)) g1_z rfl hm_z
        obtain ⟨_, s197_z, s198_z, g1_z, hm_z⟩ := hm_z
        replace g0_z := s197_z 0 _ (by decide) rfl g0_z
        clear s197_z s198_z
        replace hm_z := rn_gotoL (am_cur_of (i := (25, 3, .goto (-18), (5, 0, 0), 0)) (by decide +kernel)) hm_z
        exact (ih_z _ _ _ g0_z g1_z hm_z).trans ((rg_v_other (by omega)).trans (rfl))
theorem ft_244 {n : Nat} {r : Option Value} {g g' : am_H} (hm_z : rn n am_m244 0 (lv_args 0 [.ref 164]) [] g r g') : rg_v g' 164 57 = rg_v g 164 57 := by
  have g0_z : am_get (lv_args 0 [.ref 164]) 0 = some (.ref 164) := rfl
  replace hm_z := rn_aload_n (am_cur_of (i := (0, 1, .aload_n 0, (0, 0, 0), 0)) (by decide +kernel)) g0_z hm_z
  replace hm_z := rn_iconst (w := 0) (am_cur_of (i := (1, 1, .iconst 0, (0, 0, 0), 0)) (by decide +kernel)) (by decide) hm_z
  replace hm_z := rn_put (am_cur_of (i := (2, 3, .putfield 139, (12, 2, 1386), 0)) (by decide +kernel)) (by decide +kernel) hm_z
  replace hm_z := rn_iconst (w := 0) (am_cur_of (i := (5, 1, .iconst 0, (0, 0, 0), 0)) (by decide +kernel)) (by decide) hm_z
  replace hm_z := rn_istore_n (am_cur_of (i := (6, 1, .istore_n 1, (0, 0, 0), 0)) (by decide +kernel)) hm_z
  obtain ⟨_, s199_z, s200_z, g1_z, hm_z⟩ := hm_z
  replace g0_z := s199_z 0 _ (by decide) rfl g0_z
  clear s199_z s200_z
  exact (ft_a _ _ _ _ g0_z g1_z hm_z).trans ((rg_v_other (by omega)).trans (rfl))
