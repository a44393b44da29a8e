set_option maxHeartbeats 400000
/-! ===== THE STATE ALIKE FROM HOW FULL IT IS ON (wip/r/gen99sn.py) ===== -/
theorem un_pair0 {h h' g g' : am_H} {r r' : Option Value} (S : St 0 h g) (cf_z : ∀ o k, (56 ≤ o ∧ o ≤ 59) ∨ (o = 0 ∧ k = 8) → rg_v h' o k = rg_v h o k) (mf : ∀ q, rg_v g' 201 q = rg_v g 201 q) (m79_z : rg_v g' 164 79 = rg_v g 164 79)
    (c : (rg_v h 60 2 = 0 ∧ r = some (.int (-1)) ∧ ∀ o k, h' o k = h o k) ∨ (¬ rg_v h 60 2 = 0 ∧ r = some (.int (rg_v h' 60 2)) ∧ (∀ j, j < 17 → cS_z h' 48 j = cS_z h (62 + 4 * (((rg_v h 60 1).toInt + 19) % 20).toNat) j) ∧ (rg_v h' 60 1).toInt = ((rg_v h 60 1).toInt + 19) % 20 ∧ (rg_v h' 60 2).toInt = (rg_v h 60 2).toInt - 1 ∧ ∀ o k, ¬ (48 ≤ o ∧ o ≤ 51) → ¬ (o = 60 ∧ (k = 1 ∨ k = 2)) → h' o k = h o k))
    (d : (rg_v g 164 77 = 0 ∧ r' = some (.int (-1)) ∧ (∀ o q, mQ o q → g' o q = g o q)) ∨ (¬ rg_v g 164 77 = 0 ∧ r' = some (.int (rg_v g' 164 77)) ∧ (rg_v g' 164 77).toInt = (rg_v g 164 77).toInt - 1 ∧ (∀ j, j < 17 → mS g' 0 j = rg_v g 200 (17 * ((rg_v g 164 77).toInt.toNat - 1) + j)) ∧ ∀ q, rg_v g' 200 q = rg_v g 200 q)) : r = r' ∧ St 0 h' g' := by
  have SS := S
  obtain ⟨s, ⟨⟨n0_z, n1_z⟩, ⟨z0_z, z1_z⟩, e, H4⟩, I⟩ := S
  rw [← e] at d
  rcases c with ⟨c1_z, cr, kp⟩ | ⟨c1_z, cr, cs, cn, cz, cf2_z⟩
  · rcases d with ⟨-, dr, km⟩ | ⟨v, -⟩
    · exact ⟨by rw [cr, dr], St_kk (by decide) (fun o k _ => kp o k) km SS⟩
    · exact absurd c1_z v
  · rcases d with ⟨v, -⟩ | ⟨-, dr, dz, ds, dq⟩
    · exact absurd v c1_z
    · have c0_z : ¬ (rg_v h 60 2).toInt = 0 := fun q => c1_z (Int32.toInt_inj.mp (q.trans (by decide)))
      have ez : rg_v h' 60 2 = rg_v g' 164 77 := Int32.toInt_inj.mp (by rw [cz, dz])
      refine ⟨by rw [cr, dr, ez], ?_, ⟨by rw [cn]; omega, by rw [cz]; omega, ez, fun j hj_z => ?_⟩, iR_e (by decide) cf_z mf m79_z I⟩
      · have p := H4 ((rg_v h 60 2).toInt.toNat - 1) (by omega)
        have eI : hI (rg_v h 60 1).toInt (rg_v h 60 2).toInt ((rg_v h 60 2).toInt.toNat - 1) = 62 + 4 * (((rg_v h 60 1).toInt + 19) % 20).toNat := by
          unfold hI
          omega
        rw [eI] at p
        exact sRec_e (by decide) (fun i _ hi_z => cs i hi_z) (fun i _ hi_z => ds i hi_z) p
      · rw [cz] at hj_z
        rw [cn, cz]
        have eI : hI (((rg_v h 60 1).toInt + 19) % 20) ((rg_v h 60 2).toInt - 1) j = hI (rg_v h 60 1).toInt (rg_v h 60 2).toInt j := by
          unfold hI
          omega
        rw [eI]
        have q := hI_r (nx := (rg_v h 60 1).toInt) (sz := (rg_v h 60 2).toInt) (j := j)
        exact sRec_e (by decide) (fun i _ _ => cS_e (fun o k a c => cf2_z o k (by omega) (by omega)) i) (fun i _ _ => dq _) (H4 j (by omega))
theorem kp_pair0 {h h' g g' : am_H} {r r' : Option Value} (S : St 0 h g)
    (c : r = some (.int (rg_v h 48 1)) ∧ rg_v h' 0 8 = 1 ∧ (∀ j, j < 17 → cS_z h' 56 j = cS_z h 48 j) ∧ ∀ o k, ¬ (56 ≤ o ∧ o ≤ 59) → ¬ (o = 0 ∧ k = 8) → h' o k = h o k)
    (d : r' = some (.int (rg_v g 189 0)) ∧ rg_v g' 164 79 = 1 ∧ (∀ j, j < 17 → rg_v g' 201 j = mS g 0 j) ∧ ∀ j, mS g' 0 j = mS g 0 j) (d77_z : rg_v g' 164 77 = rg_v g 164 77) (d200_z : ∀ q, rg_v g' 200 q = rg_v g 200 q) : r = r' ∧ St 0 h' g' := by
  obtain ⟨s, ⟨⟨n0_z, n1_z⟩, ⟨z0_z, z1_z⟩, e, H4⟩, I⟩ := S
  obtain ⟨cr, c8_z, ci_z, cf_z⟩ := c
  obtain ⟨dr, d79_z, di, dm⟩ := d
  have cv_z : ∀ o k, ¬ (56 ≤ o ∧ o ≤ 59) → ¬ (o = 0 ∧ k = 8) → rg_v h' o k = rg_v h o k := by
    intro o k a b
    unfold rg_v
    rw [cf_z o k a b]
  refine ⟨by rw [cr, dr, show rg_v h 48 1 = rg_v g 189 0 from s.1 1 (by decide) (by decide)], sRec_e (by decide) (fun i _ _ => cS_e (fun o k a b => cf_z o k (by omega) (by omega)) i) (fun i _ _ => dm i) s, ⟨?_, ?_, ?_, fun j hj_z => ?_⟩, by rw [c8_z, d79_z], fun _ => sRec_e (by decide) (fun i _ hi_z => ci_z i hi_z) (fun i _ hi_z => di i hi_z) s⟩
  · rw [cv_z 60 1 (by omega) (by omega)]
    exact ⟨n0_z, n1_z⟩
  · rw [cv_z 60 2 (by omega) (by omega)]
    exact ⟨z0_z, z1_z⟩
  · rw [cv_z 60 2 (by omega) (by omega), d77_z]
    exact e
  · rw [cv_z 60 2 (by omega) (by omega)] at hj_z ⊢
    rw [cv_z 60 1 (by omega) (by omega)]
    have q := hI_r (nx := (rg_v h 60 1).toInt) (sz := (rg_v h 60 2).toInt) (j := j)
    exact sRec_e (by decide) (fun i _ _ => cS_e (fun o k a c => cf_z o k (by omega) (by omega)) i) (fun i _ _ => d200_z _) (H4 j hj_z)
theorem bc_pair0 {h h' g g' : am_H} {r r' : Option Value} (S : St 0 h g) (cf_z : ∀ o k, (56 ≤ o ∧ o ≤ 59) ∨ (o = 0 ∧ k = 8) → rg_v h' o k = rg_v h o k) (mf : ∀ q, rg_v g' 201 q = rg_v g 201 q) (m79_z : rg_v g' 164 79 = rg_v g 164 79)
    (c : (rg_v h 0 8 = 0 ∧ r = some (.int (-1)) ∧ ∀ o k, h' o k = h o k) ∨ (¬ rg_v h 0 8 = 0 ∧ r = some (.int (rg_v h' 48 1)) ∧ (∀ j, j < 17 → cS_z h' 48 j = cS_z h 56 j) ∧ rg_v h' 60 2 = 0 ∧ ∀ o k, ¬ (48 ≤ o ∧ o ≤ 51) → ¬ (o = 60 ∧ k = 2) → h' o k = h o k))
    (d : (rg_v g 164 79 = 0 ∧ r' = some (.int (-1)) ∧ (∀ o q, mQ o q → g' o q = g o q)) ∨ (¬ rg_v g 164 79 = 0 ∧ r' = some (.int (rg_v g' 189 0)) ∧ rg_v g' 164 77 = 0 ∧ ∀ j, j < 17 → mS g' 0 j = rg_v g 201 j)) : r = r' ∧ St 0 h' g' := by
  have SS := S
  obtain ⟨s, ⟨⟨n0_z, n1_z⟩, ⟨z0_z, z1_z⟩, e, H4⟩, I⟩ := S
  have II := I
  obtain ⟨i1_z, i2_z⟩ := I
  rw [← i1_z] at d
  rcases c with ⟨c1_z, cr, kp⟩ | ⟨c1_z, cr, cs, cz, cf2_z⟩
  · rcases d with ⟨-, dr, km⟩ | ⟨v, -⟩
    · exact ⟨by rw [cr, dr], St_kk (by decide) (fun o k _ => kp o k) km SS⟩
    · exact absurd c1_z v
  · rcases d with ⟨v, -⟩ | ⟨-, dr, dz, ds⟩
    · exact absurd v c1_z
    · have sn : sRec 0 (cS_z h' 48) (mS g' 0) := sRec_e (by decide) (fun i _ hi_z => cs i hi_z) (fun i _ hi_z => ds i hi_z) (i2_z c1_z)
      have y0_z : (0 : Int32).toInt = 0 := by decide
      refine ⟨by rw [cr, dr, show rg_v h' 48 1 = rg_v g' 189 0 from sn.1 1 (by decide) (by decide)], sn, ⟨?_, by rw [cz]; decide, by rw [cz, dz], fun j hj_z => ?_⟩, iR_e (by decide) cf_z mf m79_z II⟩
      · have q : rg_v h' 60 1 = rg_v h 60 1 := by
          unfold rg_v
          rw [cf2_z 60 1 (by omega) (by omega)]
        rw [q]
        exact ⟨n0_z, n1_z⟩
      · rw [cz, y0_z] at hj_z
        omega
/-- a state put away, another one in its place -/
theorem St_push {h h' g g' : am_H} (S : St 0 h g) (S1 : St 1 h' g') (cp_z : hp_z h h h') (cfr : (∀ o k, 62 ≤ o → o ≤ 141 → ¬ (62 + 4 * (rg_v h 60 1).toNatClampNeg ≤ o ∧ o ≤ 62 + 4 * (rg_v h 60 1).toNatClampNeg + 3) → h' o k = h o k)) (dp : mpu g g g') (cf_z : ∀ o k, (56 ≤ o ∧ o ≤ 59) ∨ (o = 0 ∧ k = 8) → rg_v h' o k = rg_v h o k) (mf : ∀ q, rg_v g' 201 q = rg_v g 201 q) (m79_z : rg_v g' 164 79 = rg_v g 164 79) (e0_z : rg_v h' 48 0 = rg_v g' 188 0) : St 0 h' g' := by
  obtain ⟨s, H, I⟩ := S
  refine ⟨⟨fun j _ j17_z => ?_, S1.1.2⟩, hR_push (by decide) s H cp_z cfr dp, iR_e (by decide) cf_z mf m79_z I⟩
  by_cases c : j = 0
  · rw [c]
    exact e0_z
  · exact S1.1.1 j (by omega) j17_z
theorem pt_pair0 {h h' g g' : am_H} {r r' : Option Value} {m n n2_z x y : Int32} (S : St 0 h g) (S1 : St 1 h' g') (nn : n = n2_z) (xy : x = y) (cf_z : ∀ o k, (56 ≤ o ∧ o ≤ 59) ∨ (o = 0 ∧ k = 8) → rg_v h' o k = rg_v h o k) (mf : ∀ q, rg_v g' 201 q = rg_v g 201 q) (m79_z : rg_v g' 164 79 = rg_v g 164 79)
    (c : (¬ (0 ≤ m.toInt ∧ m.toInt < n.toInt ∧ (((rg_v h 48 4) >>> (m &&& 31)) &&& 1).toInt = 0) ∧ r = some (.int (-1)) ∧ ∀ o k, h' o k = h o k) ∨ ((0 ≤ m.toInt ∧ m.toInt < n.toInt ∧ (((rg_v h 48 4) >>> (m &&& 31)) &&& 1).toInt = 0) ∧ r = some (.int (if m = x then 1 else 0)) ∧ hp_z h h h' ∧ (∀ j, 0 ≤ j → j < 17 → cS_z h' 48 j = tW (cS_z h 48) m j) ∧ (∀ o k, 62 ≤ o → o ≤ 141 → ¬ (62 + 4 * (rg_v h 60 1).toNatClampNeg ≤ o ∧ o ≤ 62 + 4 * (rg_v h 60 1).toNatClampNeg + 3) → h' o k = h o k)))
    (d : (¬ (0 ≤ m.toInt ∧ m.toInt < n2_z.toInt ∧ (((rg_v g 164 57) >>> (m &&& 31)) &&& 1).toInt = 0) ∧ r' = some (.int (-1)) ∧ (∀ o q, mQ o q → g' o q = g o q)) ∨ ((0 ≤ m.toInt ∧ m.toInt < n2_z.toInt ∧ (((rg_v g 164 57) >>> (m &&& 31)) &&& 1).toInt = 0) ∧ r' = some (.int (if m = y then 1 else 0)) ∧ mpu g g g' ∧ ∀ j, 0 ≤ j → j < 17 → mS g' 0 j = tW (mS g 0) m j)) : St 0 h' g' := by
  have e4_z : rg_v h 48 4 = rg_v g 164 57 := S.1.1 4 (by decide) (by decide)
  rw [← e4_z, ← nn] at d
  rcases c with ⟨v, cr, kp⟩ | ⟨v, cr, cp_z, cw, cfr⟩
  · rcases d with ⟨-, dr, km⟩ | ⟨v2_z, -⟩
    · exact St_kk (by decide) (fun o k _ => kp o k) km S
    · exact absurd v2_z v
  · rcases d with ⟨v2_z, -⟩ | ⟨-, dr, dp, dw⟩
    · exact absurd v v2_z
    · refine St_push S S1 cp_z cfr dp cf_z mf m79_z ?_
      have a : cS_z h' 48 0 = cS_z h 48 0 := (cw 0 (by decide) (by decide)).trans (if_neg (by decide))
      have b : mS g' 0 0 = mS g 0 0 := (dw 0 (by decide) (by decide)).trans (if_neg (by decide))
      exact a.trans ((S.1.1 0 (by decide) (by decide)).trans b.symm)
theorem St_c0 {md : List (Nat × Nat)} {h h' : am_H} (hb_z : okC md = true) (f : ab_Fr md h h') (S : St 0 h h) : St 0 h' h' := by
  unfold okC at hb_z
  simp only [Bool.and_eq_true] at hb_z
  exact St_e (by decide) (fun o k q => rg_v_fr f (cq_in hb_z.1 q)) (fun o q e => rg_v_fr f (mq_in hb_z.2.1 hb_z.2.2 e)) S
theorem St_m0 {md : List (Nat × Nat)} {h h' : am_H} (hb_z : (md.all cqB && md.all m3B) = true) (f : ab_Fr md h h') (b : bk h h') (e : rg_v h' 164 57 = rg_v h 164 57) (S : St 0 h h) : St 0 h' h' := by
  simp only [Bool.and_eq_true] at hb_z
  refine St_e (by decide) (fun o k q => rg_v_fr f (cq_in hb_z.1 q)) (fun o q m => ?_) S
  unfold mQ at m
  rcases m with ⟨rfl, rfl | rfl | rfl⟩ | m | m | ⟨a, c, rfl⟩ | ⟨rfl, rfl⟩ | ⟨a, c, d⟩
  · exact e
  · exact rg_v_fr f (m3_in hb_z.2 (by unfold mR; omega))
  · exact rg_v_fr f (m3_in hb_z.2 (by unfold mR; omega))
  · exact rg_v_fr f (m3_in hb_z.2 (by unfold mR; omega))
  · exact rg_v_fr f (m3_in hb_z.2 (by unfold mR; omega))
  · refine b o 0 ?_
    have h3_z : o = 188 ∨ o = 189 ∨ o = 190 := by omega
    rcases h3_z with rfl | rfl | rfl <;> rfl
  · exact b 194 0 rfl
  · refine b o q ?_
    have h3_z : o = 191 ∨ o = 192 ∨ o = 193 := by omega
    rcases h3_z with rfl | rfl | rfl
    · exact ble_t (show q ≤ 3 by omega)
    · exact ble_t (show q ≤ 3 by omega)
    · exact ble_t (show q ≤ 3 by omega)
theorem St_20 {md : List (Nat × Nat)} {h1_z h2_z : am_H} (hb_z : md.all cqB = true) (f2_z : ab_Fr md h1_z h2_z) (S : St 0 h1_z h2_z) : St 0 h2_z h2_z := St_e (by decide) (fun o k q => rg_v_fr f2_z (cq_in hb_z q)) (fun _ _ _ => rfl) S
theorem sf_147 {n : Nat} {r : Option Value} {g g' : am_H} (hm_z : rn n am_m147 0 (lv_args 0 [.ref 164, .int 0]) [] g r g') : rg_v g' 188 0 = rg_v g 168 1 := by
  have g0_z : am_get (lv_args 0 [.ref 164, .int 0]) 0 = some (.ref 164) := rfl
  have g1_z : am_get (lv_args 0 [.ref 164, .int 0]) 1 = some (.int 0) := rfl
  replace hm_z := rn_aload_n (am_cur_of (i := (0, 1, .aload_n 0, (0, 0, 0), 0)) (by decide +kernel)) g0_z hm_z
  replace hm_z := rn_getR (x := 188) (am_cur_of (i := (1, 3, .getfield 85, (12, 50, 1434), 0)) (by decide +kernel)) (by decide +kernel) hm_z
  replace hm_z := rn_iload_n (am_cur_of (i := (4, 1, .iload_n 1, (0, 0, 0), 0)) (by decide +kernel)) g1_z hm_z
  replace hm_z := rn_aload_n (am_cur_of (i := (5, 1, .aload_n 0, (0, 0, 0), 0)) (by decide +kernel)) g0_z hm_z
  replace hm_z := rn_getR (x := 168) (am_cur_of (i := (6, 3, .getfield 24, (12, 23, 1407), 0)) (by decide +kernel)) (by decide +kernel) hm_z
  replace hm_z := rn_iconst (w := 1) (am_cur_of (i := (9, 1, .iconst 1, (0, 0, 0), 0)) (by decide +kernel)) (by decide) hm_z
  replace hm_z := rn_iaload (N := 12) (q := 1) (v := rg_v g 168 1) (am_cur_of (i := (10, 1, .iaload, (0, 0, 0), 0)) (by decide +kernel)) (by decide +kernel) rfl rfl hm_z
  obtain ⟨p1_z, hm_z⟩ := hm_z
  replace hm_z := rn_iastore (N := 4) (q := 0) (am_cur_of (i := (11, 1, .iastore, (0, 0, 0), 0)) (by decide +kernel)) (by decide +kernel) rfl hm_z
  obtain ⟨p2_z, hm_z⟩ := hm_z
  replace hm_z := rn_aload_n (am_cur_of (i := (12, 1, .aload_n 0, (0, 0, 0), 0)) (by decide +kernel)) g0_z hm_z
  replace hm_z := rn_getR (x := 189) (am_cur_of (i := (13, 3, .getfield 88, (12, 51, 1435), 0)) (by decide +kernel)) (by decide +kernel) hm_z
  replace hm_z := rn_iload_n (am_cur_of (i := (16, 1, .iload_n 1, (0, 0, 0), 0)) (by decide +kernel)) g1_z hm_z
  replace hm_z := rn_iconst (w := 0) (am_cur_of (i := (17, 1, .iconst 0, (0, 0, 0), 0)) (by decide +kernel)) (by decide) hm_z
  replace hm_z := rn_iastore (N := 4) (q := 0) (am_cur_of (i := (18, 1, .iastore, (0, 0, 0), 0)) (by decide +kernel)) (by decide +kernel) rfl hm_z
  obtain ⟨p3_z, hm_z⟩ := hm_z
  replace hm_z := rn_aload_n (am_cur_of (i := (19, 1, .aload_n 0, (0, 0, 0), 0)) (by decide +kernel)) g0_z hm_z
  replace hm_z := rn_getR (x := 190) (am_cur_of (i := (20, 3, .getfield 91, (12, 52, 1436), 0)) (by decide +kernel)) (by decide +kernel) hm_z
  replace hm_z := rn_iload_n (am_cur_of (i := (23, 1, .iload_n 1, (0, 0, 0), 0)) (by decide +kernel)) g1_z hm_z
  replace hm_z := rn_iconst (w := (-1)) (am_cur_of (i := (24, 1, .iconst (-1), (0, 0, 0), 0)) (by decide +kernel)) (by decide) hm_z
  replace hm_z := rn_iastore (N := 4) (q := 0) (am_cur_of (i := (25, 1, .iastore, (0, 0, 0), 0)) (by decide +kernel)) (by decide +kernel) rfl hm_z
  obtain ⟨p4_z, hm_z⟩ := hm_z
  replace hm_z := rn_aload_n (am_cur_of (i := (26, 1, .aload_n 0, (0, 0, 0), 0)) (by decide +kernel)) g0_z hm_z
  replace hm_z := rn_getR (x := 194) (am_cur_of (i := (27, 3, .getfield 103, (12, 56, 1440), 0)) (by decide +kernel)) (by decide +kernel) hm_z
  replace hm_z := rn_iload_n (am_cur_of (i := (30, 1, .iload_n 1, (0, 0, 0), 0)) (by decide +kernel)) g1_z hm_z
  replace hm_z := rn_aload_n (am_cur_of (i := (31, 1, .aload_n 0, (0, 0, 0), 0)) (by decide +kernel)) g0_z hm_z
  replace hm_z := rn_getR (x := 168) (am_cur_of (i := (32, 3, .getfield 24, (12, 23, 1407), 0)) (by decide +kernel)) (by decide +kernel) hm_z
  replace hm_z := rn_iconst (w := 3) (am_cur_of (i := (35, 1, .iconst 3, (0, 0, 0), 0)) (by decide +kernel)) (by decide) hm_z
  replace hm_z := rn_iaload (N := 12) (q := 3) (v := rg_v g 168 3) (am_cur_of (i := (36, 1, .iaload, (0, 0, 0), 0)) (by decide +kernel)) (by decide +kernel) rfl ((rg_v_other (by omega)).trans ((rg_v_other (by omega)).trans ((rg_v_other (by omega)).trans (rfl)))) hm_z
  obtain ⟨p5_z, hm_z⟩ := hm_z
  replace hm_z := rn_iastore (N := 4) (q := 0) (am_cur_of (i := (37, 1, .iastore, (0, 0, 0), 0)) (by decide +kernel)) (by decide +kernel) rfl hm_z
  obtain ⟨p6_z, hm_z⟩ := hm_z
  replace hm_z := rn_iconst (w := 0) (am_cur_of (i := (38, 1, .iconst 0, (0, 0, 0), 0)) (by decide +kernel)) (by decide) hm_z
  replace hm_z := rn_istore_n (am_cur_of (i := (39, 1, .istore_n 2, (0, 0, 0), 0)) (by decide +kernel)) hm_z
  obtain ⟨_, s7_z, s8_z, g2_z, hm_z⟩ := hm_z
  replace g0_z := s7_z 0 _ (by decide) rfl g0_z
  replace g1_z := s7_z 1 _ (by decide) rfl g1_z
  clear s7_z s8_z
  replace hm_z := rn_iload_n (am_cur_of (i := (40, 1, .iload_n 2, (0, 0, 0), 0)) (by decide +kernel)) g2_z hm_z
  replace hm_z := rn_iconst (w := 4) (am_cur_of (i := (41, 1, .iconst 4, (0, 0, 0), 0)) (by decide +kernel)) (by decide) hm_z
  replace hm_z := rn_cmpF (am_cur_of (i := (42, 3, .if_icmp .ge 42, (60, 0, 0), 0)) (by decide +kernel)) (by decide) hm_z
  replace hm_z := rn_aload_n (am_cur_of (i := (45, 1, .aload_n 0, (0, 0, 0), 0)) (by decide +kernel)) g0_z hm_z
  replace hm_z := rn_getR (x := 191) (am_cur_of (i := (46, 3, .getfield 94, (12, 53, 1437), 0)) (by decide +kernel)) (by decide +kernel) hm_z
  replace hm_z := rn_iconst (w := 4) (am_cur_of (i := (49, 1, .iconst 4, (0, 0, 0), 0)) (by decide +kernel)) (by decide) hm_z
  replace hm_z := rn_iload_n (am_cur_of (i := (50, 1, .iload_n 1, (0, 0, 0), 0)) (by decide +kernel)) g1_z hm_z
  replace hm_z := rn_imul (w := 0) (am_cur_of (i := (51, 1, .imul, (0, 0, 0), 0)) (by decide +kernel)) (by decide) hm_z
  replace hm_z := rn_iload_n (am_cur_of (i := (52, 1, .iload_n 2, (0, 0, 0), 0)) (by decide +kernel)) g2_z hm_z
  replace hm_z := rn_iadd (w := 0) (am_cur_of (i := (53, 1, .iadd, (0, 0, 0), 0)) (by decide +kernel)) (by decide) hm_z
  replace hm_z := rn_iconst (w := 0) (am_cur_of (i := (54, 1, .iconst 0, (0, 0, 0), 0)) (by decide +kernel)) (by decide) hm_z
  replace hm_z := rn_iastore (N := 16) (q := 0) (am_cur_of (i := (55, 1, .iastore, (0, 0, 0), 0)) (by decide +kernel)) (by decide +kernel) rfl hm_z
  obtain ⟨p9_z, hm_z⟩ := hm_z
  replace hm_z := rn_aload_n (am_cur_of (i := (56, 1, .aload_n 0, (0, 0, 0), 0)) (by decide +kernel)) g0_z hm_z
  replace hm_z := rn_getR (x := 192) (am_cur_of (i := (57, 3, .getfield 97, (12, 54, 1438), 0)) (by decide +kernel)) (by decide +kernel) hm_z
  replace hm_z := rn_iconst (w := 4) (am_cur_of (i := (60, 1, .iconst 4, (0, 0, 0), 0)) (by decide +kernel)) (by decide) hm_z
  replace hm_z := rn_iload_n (am_cur_of (i := (61, 1, .iload_n 1, (0, 0, 0), 0)) (by decide +kernel)) g1_z hm_z
  replace hm_z := rn_imul (w := 0) (am_cur_of (i := (62, 1, .imul, (0, 0, 0), 0)) (by decide +kernel)) (by decide) hm_z
  replace hm_z := rn_iload_n (am_cur_of (i := (63, 1, .iload_n 2, (0, 0, 0), 0)) (by decide +kernel)) g2_z hm_z
  replace hm_z := rn_iadd (w := 0) (am_cur_of (i := (64, 1, .iadd, (0, 0, 0), 0)) (by decide +kernel)) (by decide) hm_z
  replace hm_z := rn_iconst (w := 0) (am_cur_of (i := (65, 1, .iconst 0, (0, 0, 0), 0)) (by decide +kernel)) (by decide) hm_z
  replace hm_z := rn_iastore (N := 16) (q := 0) (am_cur_of (i := (66, 1, .iastore, (0, 0, 0), 0)) (by decide +kernel)) (by decide +kernel) rfl hm_z
  obtain ⟨p10_z, hm_z⟩ := hm_z
  replace hm_z := rn_aload_n (am_cur_of (i := (67, 1, .aload_n 0, (0, 0, 0), 0)) (by decide +kernel)) g0_z hm_z
  replace hm_z := rn_getR (x := 193) (am_cur_of (i := (68, 3, .getfield 100, (12, 55, 1439), 0)) (by decide +kernel)) (by decide +kernel) hm_z
  replace hm_z := rn_iconst (w := 4) (am_cur_of (i := (71, 1, .iconst 4, (0, 0, 0), 0)) (by decide +kernel)) (by decide) hm_z
  replace hm_z := rn_iload_n (am_cur_of (i := (72, 1, .iload_n 1, (0, 0, 0), 0)) (by decide +kernel)) g1_z hm_z
  replace hm_z := rn_imul (w := 0) (am_cur_of (i := (73, 1, .imul, (0, 0, 0), 0)) (by decide +kernel)) (by decide) hm_z
  replace hm_z := rn_iload_n (am_cur_of (i := (74, 1, .iload_n 2, (0, 0, 0), 0)) (by decide +kernel)) g2_z hm_z
  replace hm_z := rn_iadd (w := 0) (am_cur_of (i := (75, 1, .iadd, (0, 0, 0), 0)) (by decide +kernel)) (by decide) hm_z
  replace hm_z := rn_iconst (w := 0) (am_cur_of (i := (76, 1, .iconst 0, (0, 0, 0), 0)) (by decide +kernel)) (by decide) hm_z
  replace hm_z := rn_iastore (N := 16) (q := 0) (am_cur_of (i := (77, 1, .iastore, (0, 0, 0), 0)) (by decide +kernel)) (by decide +kernel) rfl hm_z
  obtain ⟨p11_z, hm_z⟩ := hm_z
  replace hm_z := rn_iinc (w := 1) (am_cur_of (i := (78, 3, .iinc 2 1, (0, 0, 0), 0)) (by decide +kernel)) g2_z (by decide) hm_z
  obtain ⟨_, s12_z, s13_z, g2_z, hm_z⟩ := hm_z
  replace g0_z := s12_z 0 _ (by decide) rfl g0_z
  replace g1_z := s12_z 1 _ (by decide) rfl g1_z
  clear s12_z s13_z
  replace hm_z := rn_goto (am_cur_of (i := (81, 3, .goto (-41), (28, 0, 0), 0)) (by decide +kernel)) hm_z
  replace hm_z := rn_iload_n (am_cur_of (i := (40, 1, .iload_n 2, (0, 0, 0), 0)) (by decide +kernel)) g2_z hm_z
  replace hm_z := rn_iconst (w := 4) (am_cur_of (i := (41, 1, .iconst 4, (0, 0, 0), 0)) (by decide +kernel)) (by decide) hm_z
  replace hm_z := rn_cmpF (am_cur_of (i := (42, 3, .if_icmp .ge 42, (60, 0, 0), 0)) (by decide +kernel)) (by decide) hm_z
  replace hm_z := rn_aload_n (am_cur_of (i := (45, 1, .aload_n 0, (0, 0, 0), 0)) (by decide +kernel)) g0_z hm_z
  replace hm_z := rn_getR (x := 191) (am_cur_of (i := (46, 3, .getfield 94, (12, 53, 1437), 0)) (by decide +kernel)) (by decide +kernel) hm_z
  replace hm_z := rn_iconst (w := 4) (am_cur_of (i := (49, 1, .iconst 4, (0, 0, 0), 0)) (by decide +kernel)) (by decide) hm_z
  replace hm_z := rn_iload_n (am_cur_of (i := (50, 1, .iload_n 1, (0, 0, 0), 0)) (by decide +kernel)) g1_z hm_z
  replace hm_z := rn_imul (w := 0) (am_cur_of (i := (51, 1, .imul, (0, 0, 0), 0)) (by decide +kernel)) (by decide) hm_z
  replace hm_z := rn_iload_n (am_cur_of (i := (52, 1, .iload_n 2, (0, 0, 0), 0)) (by decide +kernel)) g2_z hm_z
  replace hm_z := rn_iadd (w := 1) (am_cur_of (i := (53, 1, .iadd, (0, 0, 0), 0)) (by decide +kernel)) (by decide) hm_z
  replace hm_z := rn_iconst (w := 0) (am_cur_of (i := (54, 1, .iconst 0, (0, 0, 0), 0)) (by decide +kernel)) (by decide) hm_z
  replace hm_z := rn_iastore (N := 16) (q := 1) (am_cur_of (i := (55, 1, .iastore, (0, 0, 0), 0)) (by decide +kernel)) (by decide +kernel) rfl hm_z
  obtain ⟨p14_z, hm_z⟩ := hm_z
  replace hm_z := rn_aload_n (am_cur_of (i := (56, 1, .aload_n 0, (0, 0, 0), 0)) (by decide +kernel)) g0_z hm_z
  replace hm_z := rn_getR (x := 192) (am_cur_of (i := (57, 3, .getfield 97, (12, 54, 1438), 0)) (by decide +kernel)) (by decide +kernel) hm_z
  replace hm_z := rn_iconst (w := 4) (am_cur_of (i := (60, 1, .iconst 4, (0, 0, 0), 0)) (by decide +kernel)) (by decide) hm_z
  replace hm_z := rn_iload_n (am_cur_of (i := (61, 1, .iload_n 1, (0, 0, 0), 0)) (by decide +kernel)) g1_z hm_z
  replace hm_z := rn_imul (w := 0) (am_cur_of (i := (62, 1, .imul, (0, 0, 0), 0)) (by decide +kernel)) (by decide) hm_z
  replace hm_z := rn_iload_n (am_cur_of (i := (63, 1, .iload_n 2, (0, 0, 0), 0)) (by decide +kernel)) g2_z hm_z
  replace hm_z := rn_iadd (w := 1) (am_cur_of (i := (64, 1, .iadd, (0, 0, 0), 0)) (by decide +kernel)) (by decide) hm_z
  replace hm_z := rn_iconst (w := 0) (am_cur_of (i := (65, 1, .iconst 0, (0, 0, 0), 0)) (by decide +kernel)) (by decide) hm_z
  replace hm_z := rn_iastore (N := 16) (q := 1) (am_cur_of (i := (66, 1, .iastore, (0, 0, 0), 0)) (by decide +kernel)) (by decide +kernel) rfl hm_z
  obtain ⟨p15_z, hm_z⟩ := hm_z
  replace hm_z := rn_aload_n (am_cur_of (i := (67, 1, .aload_n 0, (0, 0, 0), 0)) (by decide +kernel)) g0_z hm_z
  replace hm_z := rn_getR (x := 193) (am_cur_of (i := (68, 3, .getfield 100, (12, 55, 1439), 0)) (by decide +kernel)) (by decide +kernel) hm_z
  replace hm_z := rn_iconst (w := 4) (am_cur_of (i := (71, 1, .iconst 4, (0, 0, 0), 0)) (by decide +kernel)) (by decide) hm_z
  replace hm_z := rn_iload_n (am_cur_of (i := (72, 1, .iload_n 1, (0, 0, 0), 0)) (by decide +kernel)) g1_z hm_z
  replace hm_z := rn_imul (w := 0) (am_cur_of (i := (73, 1, .imul, (0, 0, 0), 0)) (by decide +kernel)) (by decide) hm_z
  replace hm_z := rn_iload_n (am_cur_of (i := (74, 1, .iload_n 2, (0, 0, 0), 0)) (by decide +kernel)) g2_z hm_z
  replace hm_z := rn_iadd (w := 1) (am_cur_of (i := (75, 1, .iadd, (0, 0, 0), 0)) (by decide +kernel)) (by decide) hm_z
  replace hm_z := rn_iconst (w := 0) (am_cur_of (i := (76, 1, .iconst 0, (0, 0, 0), 0)) (by decide +kernel)) (by decide) hm_z
  replace hm_z := rn_iastore (N := 16) (q := 1) (am_cur_of (i := (77, 1, .iastore, (0, 0, 0), 0)) (by decide +kernel)) (by decide +kernel) rfl hm_z
  obtain ⟨p16_z, hm_z⟩ := hm_z
  replace hm_z := rn_iinc (w := 2) (am_cur_of (i := (78, 3, .iinc 2 1, (0, 0, 0), 0)) (by decide +kernel)) g2_z (by decide) hm_z
  obtain ⟨_, s17_z, s18_z, g2_z, hm_z⟩ := hm_z
  replace g0_z := s17_z 0 _ (by decide) rfl g0_z
  replace g1_z := s17_z 1 _ (by decide) rfl g1_z
  clear s17_z s18_z
  replace hm_z := rn_goto (am_cur_of (i := (81, 3, .goto (-41), (28, 0, 0), 0)) (by decide +kernel)) hm_z
  replace hm_z := rn_iload_n (am_cur_of (i := (40, 1, .iload_n 2, (0, 0, 0), 0)) (by decide +kernel)) g2_z hm_z
  replace hm_z := rn_iconst (w := 4) (am_cur_of (i := (41, 1, .iconst 4, (0, 0, 0), 0)) (by decide +kernel)) (by decide) hm_z
  replace hm_z := rn_cmpF (am_cur_of (i := (42, 3, .if_icmp .ge 42, (60, 0, 0), 0)) (by decide +kernel)) (by decide) hm_z
  replace hm_z := rn_aload_n (am_cur_of (i := (45, 1, .aload_n 0, (0, 0, 0), 0)) (by decide +kernel)) g0_z hm_z
  replace hm_z := rn_getR (x := 191) (am_cur_of (i := (46, 3, .getfield 94, (12, 53, 1437), 0)) (by decide +kernel)) (by decide +kernel) hm_z
  replace hm_z := rn_iconst (w := 4) (am_cur_of (i := (49, 1, .iconst 4, (0, 0, 0), 0)) (by decide +kernel)) (by decide) hm_z
  replace hm_z := rn_iload_n (am_cur_of (i := (50, 1, .iload_n 1, (0, 0, 0), 0)) (by decide +kernel)) g1_z hm_z
  replace hm_z := rn_imul (w := 0) (am_cur_of (i := (51, 1, .imul, (0, 0, 0), 0)) (by decide +kernel)) (by decide) hm_z
  replace hm_z := rn_iload_n (am_cur_of (i := (52, 1, .iload_n 2, (0, 0, 0), 0)) (by decide +kernel)) g2_z hm_z
  replace hm_z := rn_iadd (w := 2) (am_cur_of (i := (53, 1, .iadd, (0, 0, 0), 0)) (by decide +kernel)) (by decide) hm_z
  replace hm_z := rn_iconst (w := 0) (am_cur_of (i := (54, 1, .iconst 0, (0, 0, 0), 0)) (by decide +kernel)) (by decide) hm_z
  replace hm_z := rn_iastore (N := 16) (q := 2) (am_cur_of (i := (55, 1, .iastore, (0, 0, 0), 0)) (by decide +kernel)) (by decide +kernel) rfl hm_z
  obtain ⟨p19_z, hm_z⟩ := hm_z
  replace hm_z := rn_aload_n (am_cur_of (i := (56, 1, .aload_n 0, (0, 0, 0), 0)) (by decide +kernel)) g0_z hm_z
  replace hm_z := rn_getR (x := 192) (am_cur_of (i := (57, 3, .getfield 97, (12, 54, 1438), 0)) (by decide +kernel)) (by decide +kernel) hm_z
  replace hm_z := rn_iconst (w := 4) (am_cur_of (i := (60, 1, .iconst 4, (0, 0, 0), 0)) (by decide +kernel)) (by decide) hm_z
  replace hm_z := rn_iload_n (am_cur_of (i := (61, 1, .iload_n 1, (0, 0, 0), 0)) (by decide +kernel)) g1_z hm_z
  replace hm_z := rn_imul (w := 0) (am_cur_of (i := (62, 1, .imul, (0, 0, 0), 0)) (by decide +kernel)) (by decide) hm_z
  replace hm_z := rn_iload_n (am_cur_of (i := (63, 1, .iload_n 2, (0, 0, 0), 0)) (by decide +kernel)) g2_z hm_z
  replace hm_z := rn_iadd (w := 2) (am_cur_of (i := (64, 1, .iadd, (0, 0, 0), 0)) (by decide +kernel)) (by decide) hm_z
  replace hm_z := rn_iconst (w := 0) (am_cur_of (i := (65, 1, .iconst 0, (0, 0, 0), 0)) (by decide +kernel)) (by decide) hm_z
  replace hm_z := rn_iastore (N := 16) (q := 2) (am_cur_of (i := (66, 1, .iastore, (0, 0, 0), 0)) (by decide +kernel)) (by decide +kernel) rfl hm_z
  obtain ⟨p20_z, hm_z⟩ := hm_z
  replace hm_z := rn_aload_n (am_cur_of (i := (67, 1, .aload_n 0, (0, 0, 0), 0)) (by decide +kernel)) g0_z hm_z
  replace hm_z := rn_getR (x := 193) (am_cur_of (i := (68, 3, .getfield 100, (12, 55, 1439), 0)) (by decide +kernel)) (by decide +kernel) hm_z
  replace hm_z := rn_iconst (w := 4) (am_cur_of (i := (71, 1, .iconst 4, (0, 0, 0), 0)) (by decide +kernel)) (by decide) hm_z
  replace hm_z := rn_iload_n (am_cur_of (i := (72, 1, .iload_n 1, (0, 0, 0), 0)) (by decide +kernel)) g1_z hm_z
  replace hm_z := rn_imul (w := 0) (am_cur_of (i := (73, 1, .imul, (0, 0, 0), 0)) (by decide +kernel)) (by decide) hm_z
  replace hm_z := rn_iload_n (am_cur_of (i := (74, 1, .iload_n 2, (0, 0, 0), 0)) (by decide +kernel)) g2_z hm_z
  replace hm_z := rn_iadd (w := 2) (am_cur_of (i := (75, 1, .iadd, (0, 0, 0), 0)) (by decide +kernel)) (by decide) hm_z
  replace hm_z := rn_iconst (w := 0) (am_cur_of (i := (76, 1, .iconst 0, (0, 0, 0), 0)) (by decide +kernel)) (by decide) hm_z
  replace hm_z := rn_iastore (N := 16) (q := 2) (am_cur_of (i := (77, 1, .iastore, (0, 0, 0), 0)) (by decide +kernel)) (by decide +kernel) rfl hm_z
  obtain ⟨p21_z, hm_z⟩ := hm_z
  replace hm_z := rn_iinc (w := 3) (am_cur_of (i := (78, 3, .iinc 2 1, (0, 0, 0), 0)) (by decide +kernel)) g2_z (by decide) hm_z
  obtain ⟨_, s22_z, s23_z, g2_z, hm_z⟩ := hm_z
  replace g0_z := s22_z 0 _ (by decide) rfl g0_z
  replace g1_z := s22_z 1 _ (by decide) rfl g1_z
  clear s22_z s23_z
  replace hm_z := rn_goto (am_cur_of (i := (81, 3, .goto (-41), (28, 0, 0), 0)) (by decide +kernel)) hm_z
  replace hm_z := rn_iload_n (am_cur_of (i := (40, 1, .iload_n 2, (0, 0, 0), 0)) (by decide +kernel)) g2_z hm_z
  replace hm_z := rn_iconst (w := 4) (am_cur_of (i := (41, 1, .iconst 4, (0, 0, 0), 0)) (by decide +kernel)) (by decide) hm_z
  replace hm_z := rn_cmpF (am_cur_of (i := (42, 3, .if_icmp .ge 42, (60, 0, 0), 0)) (by decide +kernel)) (by decide) hm_z
  replace hm_z := rn_aload_n (am_cur_of (i := (45, 1, .aload_n 0, (0, 0, 0), 0)) (by decide +kernel)) g0_z hm_z
  replace hm_z := rn_getR (x := 191) (am_cur_of (i := (46, 3, .getfield 94, (12, 53, 1437), 0)) (by decide +kernel)) (by decide +kernel) hm_z
  replace hm_z := rn_iconst (w := 4) (am_cur_of (i := (49, 1, .iconst 4, (0, 0, 0), 0)) (by decide +kernel)) (by decide) hm_z
  replace hm_z := rn_iload_n (am_cur_of (i := (50, 1, .iload_n 1, (0, 0, 0), 0)) (by decide +kernel)) g1_z hm_z
  replace hm_z := rn_imul (w := 0) (am_cur_of (i := (51, 1, .imul, (0, 0, 0), 0)) (by decide +kernel)) (by decide) hm_z
  replace hm_z := rn_iload_n (am_cur_of (i := (52, 1, .iload_n 2, (0, 0, 0), 0)) (by decide +kernel)) g2_z hm_z
  replace hm_z := rn_iadd (w := 3) (am_cur_of (i := (53, 1, .iadd, (0, 0, 0), 0)) (by decide +kernel)) (by decide) hm_z
  replace hm_z := rn_iconst (w := 0) (am_cur_of (i := (54, 1, .iconst 0, (0, 0, 0), 0)) (by decide +kernel)) (by decide) hm_z
  replace hm_z := rn_iastore (N := 16) (q := 3) (am_cur_of (i := (55, 1, .iastore, (0, 0, 0), 0)) (by decide +kernel)) (by decide +kernel) rfl hm_z
  obtain ⟨p24_z, hm_z⟩ := hm_z
  replace hm_z := rn_aload_n (am_cur_of (i := (56, 1, .aload_n 0, (0, 0, 0), 0)) (by decide +kernel)) g0_z hm_z
  replace hm_z := rn_getR (x := 192) (am_cur_of (i := (57, 3, .getfield 97, (12, 54, 1438), 0)) (by decide +kernel)) (by decide +kernel) hm_z
  replace hm_z := rn_iconst (w := 4) (am_cur_of (i := (60, 1, .iconst 4, (0, 0, 0), 0)) (by decide +kernel)) (by decide) hm_z
  replace hm_z := rn_iload_n (am_cur_of (i := (61, 1, .iload_n 1, (0, 0, 0), 0)) (by decide +kernel)) g1_z hm_z
  replace hm_z := rn_imul (w := 0) (am_cur_of (i := (62, 1, .imul, (0, 0, 0), 0)) (by decide +kernel)) (by decide) hm_z
  replace hm_z := rn_iload_n (am_cur_of (i := (63, 1, .iload_n 2, (0, 0, 0), 0)) (by decide +kernel)) g2_z hm_z
  replace hm_z := rn_iadd (w := 3) (am_cur_of (i := (64, 1, .iadd, (0, 0, 0), 0)) (by decide +kernel)) (by decide) hm_z
  replace hm_z := rn_iconst (w := 0) (am_cur_of (i := (65, 1, .iconst 0, (0, 0, 0), 0)) (by decide +kernel)) (by decide) hm_z
  replace hm_z := rn_iastore (N := 16) (q := 3) (am_cur_of (i := (66, 1, .iastore, (0, 0, 0), 0)) (by decide +kernel)) (by decide +kernel) rfl hm_z
  obtain ⟨p25_z, hm_z⟩ := hm_z
  replace hm_z := rn_aload_n (am_cur_of (i := (67, 1, .aload_n 0, (0, 0, 0), 0)) (by decide +kernel)) g0_z hm_z
  replace hm_z := rn_getR (x := 193) (am_cur_of (i := (68, 3, .getfield 100, (12, 55, 1439), 0)) (by decide +kernel)) (by decide +kernel) hm_z
  replace hm_z := rn_iconst (w := 4) (am_cur_of (i := (71, 1, .iconst 4, (0, 0, 0), 0)) (by decide +kernel)) (by decide) hm_z
  replace hm_z := rn_iload_n (am_cur_of (i := (72, 1, .iload_n 1, (0, 0, 0), 0)) (by decide +kernel)) g1_z hm_z
  replace hm_z := rn_imul (w := 0) (am_cur_of (i := (73, 1, .imul, (0, 0, 0), 0)) (by decide +kernel)) (by decide) hm_z
  replace hm_z := rn_iload_n (am_cur_of (i := (74, 1, .iload_n 2, (0, 0, 0), 0)) (by decide +kernel)) g2_z hm_z
  replace hm_z := rn_iadd (w := 3) (am_cur_of (i := (75, 1, .iadd, (0, 0, 0), 0)) (by decide +kernel)) (by decide) hm_z
  replace hm_z := rn_iconst (w := 0) (am_cur_of (i := (76, 1, .iconst 0, (0, 0, 0), 0)) (by decide +kernel)) (by decide) hm_z
  replace hm_z := rn_iastore (N := 16) (q := 3) (am_cur_of (i := (77, 1, .iastore, (0, 0, 0), 0)) (by decide +kernel)) (by decide +kernel) rfl hm_z
  obtain ⟨p26_z, hm_z⟩ := hm_z
  replace hm_z := rn_iinc (w := 4) (am_cur_of (i := (78, 3, .iinc 2 1, (0, 0, 0), 0)) (by decide +kernel)) g2_z (by decide) hm_z
  obtain ⟨_, s27_z, s28_z, g2_z, hm_z⟩ := hm_z
  replace g0_z := s27_z 0 _ (by decide) rfl g0_z
  replace g1_z := s27_z 1 _ (by decide) rfl g1_z
  clear s27_z s28_z
  replace hm_z := rn_goto (am_cur_of (i := (81, 3, .goto (-41), (28, 0, 0), 0)) (by decide +kernel)) hm_z
  replace hm_z := rn_iload_n (am_cur_of (i := (40, 1, .iload_n 2, (0, 0, 0), 0)) (by decide +kernel)) g2_z hm_z
  replace hm_z := rn_iconst (w := 4) (am_cur_of (i := (41, 1, .iconst 4, (0, 0, 0), 0)) (by decide +kernel)) (by decide) hm_z
  replace hm_z := rn_cmpT (am_cur_of (i := (42, 3, .if_icmp .ge 42, (60, 0, 0), 0)) (by decide +kernel)) (by decide) hm_z
  replace hm_z := rn_vret (am_cur_of (i := (84, 1, .return_, (0, 0, 0), 0)) (by decide +kernel)) hm_z
  obtain ⟨e29_z, e30_z⟩ := hm_z
  rw [e30_z]
  exact rfl
theorem sf_146 {n : Nat} {r : Option Value} {g g' : am_H} (hm_z : rn n am_m146 0 (lv_args 0 [.ref 164]) [] g r g') : rg_v g' 188 0 = rg_v g 168 1 := by
  have z0_z : (0 : Int32).toInt = 0 := by decide
  have g0_z : am_get (lv_args 0 [.ref 164]) 0 = some (.ref 164) := rfl
  replace hm_z := rn_aload_n (am_cur_of (i := (0, 1, .aload_n 0, (0, 0, 0), 0)) (by decide +kernel)) g0_z hm_z
  replace hm_z := rn_iconst (w := 0) (am_cur_of (i := (1, 1, .iconst 0, (0, 0, 0), 0)) (by decide +kernel)) (by decide) hm_z
  replace hm_z := rn_callV (M' := am_m147) (o := 164) (ar := [.int 0]) (rest := []) (L := lv_args 0 [.ref 164, .int 0]) (am_cur_of (i := (2, 3, .invokevirtual 346, (147, 1372, 3), 0)) (by decide +kernel)) rfl rfl rfl rfl hm_z
  obtain ⟨r31_z, h32_z, q33_z, hm_z⟩ := hm_z
  have vo := rn_void rfl q33_z
  subst vo
  have a1_z := sf_147 q33_z
  replace hm_z : rn _ _ _ _ [] _ _ _ := hm_z
  replace hm_z := rn_aload_n (am_cur_of (i := (5, 1, .aload_n 0, (0, 0, 0), 0)) (by decide +kernel)) g0_z hm_z
  replace hm_z := rn_iconst (w := 0) (am_cur_of (i := (6, 1, .iconst 0, (0, 0, 0), 0)) (by decide +kernel)) (by decide) hm_z
  replace hm_z := rn_put (am_cur_of (i := (7, 3, .putfield 349, (12, 57, 1441), 0)) (by decide +kernel)) (by decide +kernel) hm_z
  replace hm_z := rn_aload_n (am_cur_of (i := (10, 1, .aload_n 0, (0, 0, 0), 0)) (by decide +kernel)) g0_z hm_z
  replace hm_z := rn_iconst (w := 0) (am_cur_of (i := (11, 1, .iconst 0, (0, 0, 0), 0)) (by decide +kernel)) (by decide) hm_z
  replace hm_z := rn_put (am_cur_of (i := (12, 3, .putfield 352, (12, 60, 1444), 0)) (by decide +kernel)) (by decide +kernel) hm_z
  replace hm_z := rn_aload_n (am_cur_of (i := (15, 1, .aload_n 0, (0, 0, 0), 0)) (by decide +kernel)) g0_z hm_z
  replace hm_z := rn_iconst (w := 0) (am_cur_of (i := (16, 1, .iconst 0, (0, 0, 0), 0)) (by decide +kernel)) (by decide) hm_z
  replace hm_z := rn_put (am_cur_of (i := (17, 3, .putfield 355, (12, 61, 1445), 0)) (by decide +kernel)) (by decide +kernel) hm_z
  replace hm_z := rn_aload_n (am_cur_of (i := (20, 1, .aload_n 0, (0, 0, 0), 0)) (by decide +kernel)) g0_z hm_z
  replace hm_z := rn_iconst (w := (-1)) (am_cur_of (i := (21, 1, .iconst (-1), (0, 0, 0), 0)) (by decide +kernel)) (by decide) hm_z
  replace hm_z := rn_put (am_cur_of (i := (22, 3, .putfield 106, (12, 62, 1446), 0)) (by decide +kernel)) (by decide +kernel) hm_z
  replace hm_z := rn_aload_n (am_cur_of (i := (25, 1, .aload_n 0, (0, 0, 0), 0)) (by decide +kernel)) g0_z hm_z
  replace hm_z := rn_aload_n (am_cur_of (i := (26, 1, .aload_n 0, (0, 0, 0), 0)) (by decide +kernel)) g0_z hm_z
  replace hm_z := rn_getR (x := 168) (am_cur_of (i := (27, 3, .getfield 24, (12, 23, 1407), 0)) (by decide +kernel)) (by decide +kernel) hm_z
  replace hm_z := rn_iconst (w := 5) (am_cur_of (i := (30, 1, .iconst 5, (0, 0, 0), 0)) (by decide +kernel)) (by decide) hm_z
  replace hm_z := rn_iaload (N := 12) (q := 5) (v := rg_v h32_z 168 5) (am_cur_of (i := (31, 1, .iaload, (0, 0, 0), 0)) (by decide +kernel)) (by decide +kernel) rfl ((rg_v_other (by omega)).trans ((rg_v_other (by omega)).trans ((rg_v_other (by omega)).trans ((rg_v_other (by omega)).trans (rfl))))) hm_z
  obtain ⟨p34_z, hm_z⟩ := hm_z
  replace hm_z := rn_i2l (w := (rg_v h32_z 168 5).toInt64) (am_cur_of (i := (32, 1, .i2l, (0, 0, 0), 0)) (by decide +kernel)) rfl hm_z
  replace hm_z := rn_put (am_cur_of (i := (33, 3, .putfield 358, (12, 59, 1443), 0)) (by decide +kernel)) (by decide +kernel) hm_z
  replace hm_z := rn_aload_n (am_cur_of (i := (36, 1, .aload_n 0, (0, 0, 0), 0)) (by decide +kernel)) g0_z hm_z
  replace hm_z := rn_iconst (w := (-1)) (am_cur_of (i := (37, 1, .iconst (-1), (0, 0, 0), 0)) (by decide +kernel)) (by decide) hm_z
  replace hm_z := rn_put (am_cur_of (i := (38, 3, .putfield 362, (12, 58, 1442), 0)) (by decide +kernel)) (by decide +kernel) hm_z
  replace hm_z := rn_aload_n (am_cur_of (i := (41, 1, .aload_n 0, (0, 0, 0), 0)) (by decide +kernel)) g0_z hm_z
  replace hm_z := rn_getI (v := rg_v h32_z 164 14) (am_cur_of (i := (42, 3, .getfield 225, (12, 14, 1398), 0)) (by decide +kernel)) (by decide +kernel) ((rg_v_other (by omega)).trans ((rg_v_other (by omega)).trans ((rg_v_other (by omega)).trans ((rg_v_other (by omega)).trans ((rg_v_other (by omega)).trans ((rg_v_other (by omega)).trans (rfl))))))) hm_z
  replace hm_z := rn_if (am_cur_of (i := (45, 3, .ifCond .le 79, (74, 0, 0), 0)) (by decide +kernel)) hm_z
  rcases hm_z with ⟨b35_z, hm_z⟩ | ⟨b35_z, hm_z⟩
  · replace b35_z : (rg_v h32_z 164 14).toInt ≤ (0 : Int32).toInt := b35_z
    obtain ⟨e1_z, e2_z, e5_z⟩ := sm_e g0_z hm_z
    exact (sg_v (e5_z 188 0 (by omega))).trans a1_z
  · replace b35_z : (0 : Int32).toInt < (rg_v h32_z 164 14).toInt := b35_z
    replace hm_z := rn_iconst (w := 0) (am_cur_of (i := (48, 1, .iconst 0, (0, 0, 0), 0)) (by decide +kernel)) (by decide) hm_z
    replace hm_z := rn_istore_n (am_cur_of (i := (49, 1, .istore_n 1, (0, 0, 0), 0)) (by decide +kernel)) hm_z
    obtain ⟨_, s36_z, s37_z, g1_z, hm_z⟩ := hm_z
    replace g0_z := s36_z 0 _ (by decide) rfl g0_z
    clear s36_z s37_z
    replace hm_z := rn_iconst (w := 0) (am_cur_of (i := (50, 1, .iconst 0, (0, 0, 0), 0)) (by decide +kernel)) (by decide) hm_z
    replace hm_z := rn_istore_n (am_cur_of (i := (51, 1, .istore_n 2, (0, 0, 0), 0)) (by decide +kernel)) hm_z
    obtain ⟨_, s38_z, s39_z, g2_z, hm_z⟩ := hm_z
    replace g0_z := s38_z 0 _ (by decide) rfl g0_z
    replace g1_z := s38_z 1 _ (by decide) rfl g1_z
    clear s38_z s39_z
    obtain ⟨e1_z, e2_z, e5_z⟩ := sm_s _ _ _ _ _ g0_z g1_z g2_z hm_z
    exact (sg_v (e5_z 188 0 (by omega))).trans a1_z
theorem sf_144 {n : Nat} {r : Option Value} {g g' : am_H} (hm_z : rn n am_m144 0 (lv_args 0 [.ref 164]) [] g r g') : rg_v g' 188 0 = rg_v g' 168 1 := by
  have g0_z : am_get (lv_args 0 [.ref 164]) 0 = some (.ref 164) := rfl
  replace hm_z := rn_aload_n (am_cur_of (i := (0, 1, .aload_n 0, (0, 0, 0), 0)) (by decide +kernel)) g0_z hm_z
  replace hm_z := rn_aload_n (am_cur_of (i := (1, 1, .aload_n 0, (0, 0, 0), 0)) (by decide +kernel)) g0_z hm_z
  replace hm_z := rn_getI (v := rg_v g 164 17) (am_cur_of (i := (2, 3, .getfield 201, (12, 17, 1401), 0)) (by decide +kernel)) (by decide +kernel) rfl hm_z
  replace hm_z := rn_put (am_cur_of (i := (5, 3, .putfield 219, (12, 12, 1396), 0)) (by decide +kernel)) (by decide +kernel) hm_z
  replace hm_z := rn_aload_n (am_cur_of (i := (8, 1, .aload_n 0, (0, 0, 0), 0)) (by decide +kernel)) g0_z hm_z
  replace hm_z := rn_aload_n (am_cur_of (i := (9, 1, .aload_n 0, (0, 0, 0), 0)) (by decide +kernel)) g0_z hm_z
  replace hm_z := rn_getI (v := rg_v g 164 18) (am_cur_of (i := (10, 3, .getfield 204, (12, 18, 1402), 0)) (by decide +kernel)) (by decide +kernel) ((rg_v_other (by omega)).trans (rfl)) hm_z
  replace hm_z := rn_put (am_cur_of (i := (13, 3, .putfield 222, (12, 13, 1397), 0)) (by decide +kernel)) (by decide +kernel) hm_z
  replace hm_z := rn_aload_n (am_cur_of (i := (16, 1, .aload_n 0, (0, 0, 0), 0)) (by decide +kernel)) g0_z hm_z
  replace hm_z := rn_aload_n (am_cur_of (i := (17, 1, .aload_n 0, (0, 0, 0), 0)) (by decide +kernel)) g0_z hm_z
  replace hm_z := rn_getI (v := rg_v g 164 19) (am_cur_of (i := (18, 3, .getfield 207, (12, 19, 1403), 0)) (by decide +kernel)) (by decide +kernel) ((rg_v_other (by omega)).trans ((rg_v_other (by omega)).trans (rfl))) hm_z
  replace hm_z := rn_put (am_cur_of (i := (21, 3, .putfield 225, (12, 14, 1398), 0)) (by decide +kernel)) (by decide +kernel) hm_z
  replace hm_z := rn_aload_n (am_cur_of (i := (24, 1, .aload_n 0, (0, 0, 0), 0)) (by decide +kernel)) g0_z hm_z
  replace hm_z := rn_aload_n (am_cur_of (i := (25, 1, .aload_n 0, (0, 0, 0), 0)) (by decide +kernel)) g0_z hm_z
  replace hm_z := rn_getI (v := rg_v g 164 20) (am_cur_of (i := (26, 3, .getfield 210, (12, 20, 1404), 0)) (by decide +kernel)) (by decide +kernel) ((rg_v_other (by omega)).trans ((rg_v_other (by omega)).trans ((rg_v_other (by omega)).trans (rfl)))) hm_z
  replace hm_z := rn_put (am_cur_of (i := (29, 3, .putfield 228, (12, 15, 1399), 0)) (by decide +kernel)) (by decide +kernel) hm_z
  replace hm_z := rn_aload_n (am_cur_of (i := (32, 1, .aload_n 0, (0, 0, 0), 0)) (by decide +kernel)) g0_z hm_z
  replace hm_z := rn_aload_n (am_cur_of (i := (33, 1, .aload_n 0, (0, 0, 0), 0)) (by decide +kernel)) g0_z hm_z
  replace hm_z := rn_getI (v := rg_v g 164 21) (am_cur_of (i := (34, 3, .getfield 213, (12, 21, 1405), 0)) (by decide +kernel)) (by decide +kernel) ((rg_v_other (by omega)).trans ((rg_v_other (by omega)).trans ((rg_v_other (by omega)).trans ((rg_v_other (by omega)).trans (rfl))))) hm_z
  replace hm_z := rn_put (am_cur_of (i := (37, 3, .putfield 231, (12, 16, 1400), 0)) (by decide +kernel)) (by decide +kernel) hm_z
  replace hm_z := rn_aload_n (am_cur_of (i := (40, 1, .aload_n 0, (0, 0, 0), 0)) (by decide +kernel)) g0_z hm_z
  replace hm_z := rn_getR (x := 168) (am_cur_of (i := (41, 3, .getfield 24, (12, 23, 1407), 0)) (by decide +kernel)) (by decide +kernel) hm_z
  replace hm_z := rn_bipush (w := 6) (am_cur_of (i := (44, 2, .bipush 6, (0, 0, 0), 0)) (by decide +kernel)) (by decide) hm_z
  replace hm_z := rn_callS (M' := am_m145) (ar := [.int 6, .ref 168]) (rest := []) (L := lv_args 0 [.ref 168, .int 6]) (am_cur_of (i := (46, 3, .invokestatic 234, (145, 1365, 3), 0)) (by decide +kernel)) rfl rfl rfl rfl hm_z
  obtain ⟨r40_z, h41_z, q42_z, hm_z⟩ := hm_z
  have vo := rn_void rfl q42_z
  subst vo
  clear q42_z
  replace hm_z : rn _ _ _ _ [] _ _ _ := hm_z
  replace hm_z := rn_aload_n (am_cur_of (i := (49, 1, .aload_n 0, (0, 0, 0), 0)) (by decide +kernel)) g0_z hm_z
  replace hm_z := rn_getR (x := 169) (am_cur_of (i := (50, 3, .getfield 27, (12, 24, 1408), 0)) (by decide +kernel)) (by decide +kernel) hm_z
  replace hm_z := rn_iconst (w := 4) (am_cur_of (i := (53, 1, .iconst 4, (0, 0, 0), 0)) (by decide +kernel)) (by decide) hm_z
  replace hm_z := rn_callS (M' := am_m145) (ar := [.int 4, .ref 169]) (rest := []) (L := lv_args 0 [.ref 169, .int 4]) (am_cur_of (i := (54, 3, .invokestatic 234, (145, 1365, 3), 0)) (by decide +kernel)) rfl rfl rfl rfl hm_z
  obtain ⟨r43_z, h44_z, q45_z, hm_z⟩ := hm_z
  have vo := rn_void rfl q45_z
  subst vo
  clear q45_z
  replace hm_z : rn _ _ _ _ [] _ _ _ := hm_z
  replace hm_z := rn_aload_n (am_cur_of (i := (57, 1, .aload_n 0, (0, 0, 0), 0)) (by decide +kernel)) g0_z hm_z
  replace hm_z := rn_getR (x := 170) (am_cur_of (i := (58, 3, .getfield 30, (12, 25, 1409), 0)) (by decide +kernel)) (by decide +kernel) hm_z
  replace hm_z := rn_bipush (w := 28) (am_cur_of (i := (61, 2, .bipush 28, (0, 0, 0), 0)) (by decide +kernel)) (by decide) hm_z
  replace hm_z := rn_callS (M' := am_m145) (ar := [.int 28, .ref 170]) (rest := []) (L := lv_args 0 [.ref 170, .int 28]) (am_cur_of (i := (63, 3, .invokestatic 234, (145, 1365, 3), 0)) (by decide +kernel)) rfl rfl rfl rfl hm_z
  obtain ⟨r46_z, h47_z, q48_z, hm_z⟩ := hm_z
  have vo := rn_void rfl q48_z
  subst vo
  clear q48_z
  replace hm_z : rn _ _ _ _ [] _ _ _ := hm_z
  replace hm_z := rn_aload_n (am_cur_of (i := (66, 1, .aload_n 0, (0, 0, 0), 0)) (by decide +kernel)) g0_z hm_z
  replace hm_z := rn_getR (x := 171) (am_cur_of (i := (67, 3, .getfield 33, (12, 26, 1410), 0)) (by decide +kernel)) (by decide +kernel) hm_z
  replace hm_z := rn_bipush (w := 8) (am_cur_of (i := (70, 2, .bipush 8, (0, 0, 0), 0)) (by decide +kernel)) (by decide) hm_z
  replace hm_z := rn_callS (M' := am_m145) (ar := [.int 8, .ref 171]) (rest := []) (L := lv_args 0 [.ref 171, .int 8]) (am_cur_of (i := (72, 3, .invokestatic 234, (145, 1365, 3), 0)) (by decide +kernel)) rfl rfl rfl rfl hm_z
  obtain ⟨r49_z, h50_z, q51_z, hm_z⟩ := hm_z
  have vo := rn_void rfl q51_z
  subst vo
  clear q51_z
  replace hm_z : rn _ _ _ _ [] _ _ _ := hm_z
  replace hm_z := rn_aload_n (am_cur_of (i := (75, 1, .aload_n 0, (0, 0, 0), 0)) (by decide +kernel)) g0_z hm_z
  replace hm_z := rn_getR (x := 172) (am_cur_of (i := (76, 3, .getfield 36, (12, 27, 1411), 0)) (by decide +kernel)) (by decide +kernel) hm_z
  replace hm_z := rn_bipush (w := 8) (am_cur_of (i := (79, 2, .bipush 8, (0, 0, 0), 0)) (by decide +kernel)) (by decide) hm_z
  replace hm_z := rn_callS (M' := am_m145) (ar := [.int 8, .ref 172]) (rest := []) (L := lv_args 0 [.ref 172, .int 8]) (am_cur_of (i := (81, 3, .invokestatic 234, (145, 1365, 3), 0)) (by decide +kernel)) rfl rfl rfl rfl hm_z
  obtain ⟨r52_z, h53_z, q54_z, hm_z⟩ := hm_z
  have vo := rn_void rfl q54_z
  subst vo
  clear q54_z
  replace hm_z : rn _ _ _ _ [] _ _ _ := hm_z
  replace hm_z := rn_aload_n (am_cur_of (i := (84, 1, .aload_n 0, (0, 0, 0), 0)) (by decide +kernel)) g0_z hm_z
  replace hm_z := rn_getR (x := 173) (am_cur_of (i := (85, 3, .getfield 39, (12, 28, 1412), 0)) (by decide +kernel)) (by decide +kernel) hm_z
  replace hm_z := rn_bipush (w := 6) (am_cur_of (i := (88, 2, .bipush 6, (0, 0, 0), 0)) (by decide +kernel)) (by decide) hm_z
  replace hm_z := rn_callS (M' := am_m145) (ar := [.int 6, .ref 173]) (rest := []) (L := lv_args 0 [.ref 173, .int 6]) (am_cur_of (i := (90, 3, .invokestatic 234, (145, 1365, 3), 0)) (by decide +kernel)) rfl rfl rfl rfl hm_z
  obtain ⟨r55_z, h56_z, q57_z, hm_z⟩ := hm_z
  have vo := rn_void rfl q57_z
  subst vo
  clear q57_z
  replace hm_z : rn _ _ _ _ [] _ _ _ := hm_z
  replace hm_z := rn_aload_n (am_cur_of (i := (93, 1, .aload_n 0, (0, 0, 0), 0)) (by decide +kernel)) g0_z hm_z
  replace hm_z := rn_getR (x := 174) (am_cur_of (i := (94, 3, .getfield 42, (12, 29, 1413), 0)) (by decide +kernel)) (by decide +kernel) hm_z
  replace hm_z := rn_bipush (w := 6) (am_cur_of (i := (97, 2, .bipush 6, (0, 0, 0), 0)) (by decide +kernel)) (by decide) hm_z
  replace hm_z := rn_callS (M' := am_m145) (ar := [.int 6, .ref 174]) (rest := []) (L := lv_args 0 [.ref 174, .int 6]) (am_cur_of (i := (99, 3, .invokestatic 234, (145, 1365, 3), 0)) (by decide +kernel)) rfl rfl rfl rfl hm_z
  obtain ⟨r58_z, h59_z, q60_z, hm_z⟩ := hm_z
  have vo := rn_void rfl q60_z
  subst vo
  clear q60_z
  replace hm_z : rn _ _ _ _ [] _ _ _ := hm_z
  replace hm_z := rn_aload_n (am_cur_of (i := (102, 1, .aload_n 0, (0, 0, 0), 0)) (by decide +kernel)) g0_z hm_z
  replace hm_z := rn_getR (x := 175) (am_cur_of (i := (103, 3, .getfield 45, (12, 30, 1414), 0)) (by decide +kernel)) (by decide +kernel) hm_z
  replace hm_z := rn_iconst (w := 3) (am_cur_of (i := (106, 1, .iconst 3, (0, 0, 0), 0)) (by decide +kernel)) (by decide) hm_z
  replace hm_z := rn_callS (M' := am_m145) (ar := [.int 3, .ref 175]) (rest := []) (L := lv_args 0 [.ref 175, .int 3]) (am_cur_of (i := (107, 3, .invokestatic 234, (145, 1365, 3), 0)) (by decide +kernel)) rfl rfl rfl rfl hm_z
  obtain ⟨r61_z, h62_z, q63_z, hm_z⟩ := hm_z
  have vo := rn_void rfl q63_z
  subst vo
  clear q63_z
  replace hm_z : rn _ _ _ _ [] _ _ _ := hm_z
  replace hm_z := rn_aload_n (am_cur_of (i := (110, 1, .aload_n 0, (0, 0, 0), 0)) (by decide +kernel)) g0_z hm_z
  replace hm_z := rn_getR (x := 176) (am_cur_of (i := (111, 3, .getfield 48, (12, 31, 1415), 0)) (by decide +kernel)) (by decide +kernel) hm_z
  replace hm_z := rn_iconst (w := 3) (am_cur_of (i := (114, 1, .iconst 3, (0, 0, 0), 0)) (by decide +kernel)) (by decide) hm_z
  replace hm_z := rn_callS (M' := am_m145) (ar := [.int 3, .ref 176]) (rest := []) (L := lv_args 0 [.ref 176, .int 3]) (am_cur_of (i := (115, 3, .invokestatic 234, (145, 1365, 3), 0)) (by decide +kernel)) rfl rfl rfl rfl hm_z
  obtain ⟨r64_z, h65_z, q66_z, hm_z⟩ := hm_z
  have vo := rn_void rfl q66_z
  subst vo
  clear q66_z
  replace hm_z : rn _ _ _ _ [] _ _ _ := hm_z
  replace hm_z := rn_aload_n (am_cur_of (i := (118, 1, .aload_n 0, (0, 0, 0), 0)) (by decide +kernel)) g0_z hm_z
  replace hm_z := rn_getR (x := 177) (am_cur_of (i := (119, 3, .getfield 51, (12, 32, 1416), 0)) (by decide +kernel)) (by decide +kernel) hm_z
  replace hm_z := rn_iconst (w := 3) (am_cur_of (i := (122, 1, .iconst 3, (0, 0, 0), 0)) (by decide +kernel)) (by decide) hm_z
  replace hm_z := rn_callS (M' := am_m145) (ar := [.int 3, .ref 177]) (rest := []) (L := lv_args 0 [.ref 177, .int 3]) (am_cur_of (i := (123, 3, .invokestatic 234, (145, 1365, 3), 0)) (by decide +kernel)) rfl rfl rfl rfl hm_z
  obtain ⟨r67_z, h68_z, q69_z, hm_z⟩ := hm_z
  have vo := rn_void rfl q69_z
  subst vo
  clear q69_z
  replace hm_z : rn _ _ _ _ [] _ _ _ := hm_z
  replace hm_z := rn_iconst (w := 0) (am_cur_of (i := (126, 1, .iconst 0, (0, 0, 0), 0)) (by decide +kernel)) (by decide) hm_z
  replace hm_z := rn_istore_n (am_cur_of (i := (127, 1, .istore_n 1, (0, 0, 0), 0)) (by decide +kernel)) hm_z
  obtain ⟨_, s70_z, s71_z, g1_z, hm_z⟩ := hm_z
  replace g0_z := s70_z 0 _ (by decide) rfl g0_z
  clear s70_z s71_z
  replace hm_z := rn_iload_n (am_cur_of (i := (128, 1, .iload_n 1, (0, 0, 0), 0)) (by decide +kernel)) g1_z hm_z
  replace hm_z := rn_iconst (w := 3) (am_cur_of (i := (129, 1, .iconst 3, (0, 0, 0), 0)) (by decide +kernel)) (by decide) hm_z
  replace hm_z := rn_cmpF (am_cur_of (i := (130, 3, .if_icmp .ge 23, (77, 0, 0), 0)) (by decide +kernel)) (by decide) hm_z
  replace hm_z := rn_aload_n (am_cur_of (i := (133, 1, .aload_n 0, (0, 0, 0), 0)) (by decide +kernel)) g0_z hm_z
  replace hm_z := rn_getR (x := 178) (am_cur_of (i := (134, 3, .getfield 54, (12, 33, 1417), 0)) (by decide +kernel)) (by decide +kernel) hm_z
  replace hm_z := rn_iload_n (am_cur_of (i := (137, 1, .iload_n 1, (0, 0, 0), 0)) (by decide +kernel)) g1_z hm_z
  replace hm_z := rn_aload_n (am_cur_of (i := (138, 1, .aload_n 0, (0, 0, 0), 0)) (by decide +kernel)) g0_z hm_z
  replace hm_z := rn_getR (x := 178) (am_cur_of (i := (139, 3, .getfield 54, (12, 33, 1417), 0)) (by decide +kernel)) (by decide +kernel) hm_z
  replace hm_z := rn_iconst (w := 3) (am_cur_of (i := (142, 1, .iconst 3, (0, 0, 0), 0)) (by decide +kernel)) (by decide) hm_z
  replace hm_z := rn_iload_n (am_cur_of (i := (143, 1, .iload_n 1, (0, 0, 0), 0)) (by decide +kernel)) g1_z hm_z
  replace hm_z := rn_iadd (w := 3) (am_cur_of (i := (144, 1, .iadd, (0, 0, 0), 0)) (by decide +kernel)) (by decide) hm_z
  replace hm_z := rn_baload (N := 6) (q := 3) (v := rg_v h68_z 178 3) (am_cur_of (i := (145, 1, .baload, (0, 0, 0), 0)) (by decide +kernel)) (by decide +kernel) rfl rfl hm_z
  obtain ⟨p72_z, hm_z⟩ := hm_z
  replace hm_z := rn_bastore (N := 6) (q := 0) (am_cur_of (i := (146, 1, .bastore, (0, 0, 0), 0)) (by decide +kernel)) (by decide +kernel) rfl hm_z
  obtain ⟨p73_z, hm_z⟩ := hm_z
  replace hm_z := rn_iinc (w := 1) (am_cur_of (i := (147, 3, .iinc 1 1, (0, 0, 0), 0)) (by decide +kernel)) g1_z (by decide) hm_z
  obtain ⟨_, s74_z, s75_z, g1_z, hm_z⟩ := hm_z
  replace g0_z := s74_z 0 _ (by decide) rfl g0_z
  clear s74_z s75_z
  replace hm_z := rn_goto (am_cur_of (i := (150, 3, .goto (-22), (62, 0, 0), 0)) (by decide +kernel)) hm_z
  replace hm_z := rn_iload_n (am_cur_of (i := (128, 1, .iload_n 1, (0, 0, 0), 0)) (by decide +kernel)) g1_z hm_z
  replace hm_z := rn_iconst (w := 3) (am_cur_of (i := (129, 1, .iconst 3, (0, 0, 0), 0)) (by decide +kernel)) (by decide) hm_z
  replace hm_z := rn_cmpF (am_cur_of (i := (130, 3, .if_icmp .ge 23, (77, 0, 0), 0)) (by decide +kernel)) (by decide) hm_z
  replace hm_z := rn_aload_n (am_cur_of (i := (133, 1, .aload_n 0, (0, 0, 0), 0)) (by decide +kernel)) g0_z hm_z
  replace hm_z := rn_getR (x := 178) (am_cur_of (i := (134, 3, .getfield 54, (12, 33, 1417), 0)) (by decide +kernel)) (by decide +kernel) hm_z
  replace hm_z := rn_iload_n (am_cur_of (i := (137, 1, .iload_n 1, (0, 0, 0), 0)) (by decide +kernel)) g1_z hm_z
  replace hm_z := rn_aload_n (am_cur_of (i := (138, 1, .aload_n 0, (0, 0, 0), 0)) (by decide +kernel)) g0_z hm_z
  replace hm_z := rn_getR (x := 178) (am_cur_of (i := (139, 3, .getfield 54, (12, 33, 1417), 0)) (by decide +kernel)) (by decide +kernel) hm_z
  replace hm_z := rn_iconst (w := 3) (am_cur_of (i := (142, 1, .iconst 3, (0, 0, 0), 0)) (by decide +kernel)) (by decide) hm_z
  replace hm_z := rn_iload_n (am_cur_of (i := (143, 1, .iload_n 1, (0, 0, 0), 0)) (by decide +kernel)) g1_z hm_z
  replace hm_z := rn_iadd (w := 4) (am_cur_of (i := (144, 1, .iadd, (0, 0, 0), 0)) (by decide +kernel)) (by decide) hm_z
  replace hm_z := rn_baload (N := 6) (q := 4) (v := rg_v h68_z 178 4) (am_cur_of (i := (145, 1, .baload, (0, 0, 0), 0)) (by decide +kernel)) (by decide +kernel) rfl ((rg_v_other (by omega)).trans (rfl)) hm_z
  obtain ⟨p76_z, hm_z⟩ := hm_z
  replace hm_z := rn_bastore (N := 6) (q := 1) (am_cur_of (i := (146, 1, .bastore, (0, 0, 0), 0)) (by decide +kernel)) (by decide +kernel) rfl hm_z
  obtain ⟨p77_z, hm_z⟩ := hm_z
  replace hm_z := rn_iinc (w := 2) (am_cur_of (i := (147, 3, .iinc 1 1, (0, 0, 0), 0)) (by decide +kernel)) g1_z (by decide) hm_z
  obtain ⟨_, s78_z, s79_z, g1_z, hm_z⟩ := hm_z
  replace g0_z := s78_z 0 _ (by decide) rfl g0_z
  clear s78_z s79_z
  replace hm_z := rn_goto (am_cur_of (i := (150, 3, .goto (-22), (62, 0, 0), 0)) (by decide +kernel)) hm_z
  replace hm_z := rn_iload_n (am_cur_of (i := (128, 1, .iload_n 1, (0, 0, 0), 0)) (by decide +kernel)) g1_z hm_z
  replace hm_z := rn_iconst (w := 3) (am_cur_of (i := (129, 1, .iconst 3, (0, 0, 0), 0)) (by decide +kernel)) (by decide) hm_z
  replace hm_z := rn_cmpF (am_cur_of (i := (130, 3, .if_icmp .ge 23, (77, 0, 0), 0)) (by decide +kernel)) (by decide) hm_z
  replace hm_z := rn_aload_n (am_cur_of (i := (133, 1, .aload_n 0, (0, 0, 0), 0)) (by decide +kernel)) g0_z hm_z
  replace hm_z := rn_getR (x := 178) (am_cur_of (i := (134, 3, .getfield 54, (12, 33, 1417), 0)) (by decide +kernel)) (by decide +kernel) hm_z
  replace hm_z := rn_iload_n (am_cur_of (i := (137, 1, .iload_n 1, (0, 0, 0), 0)) (by decide +kernel)) g1_z hm_z
  replace hm_z := rn_aload_n (am_cur_of (i := (138, 1, .aload_n 0, (0, 0, 0), 0)) (by decide +kernel)) g0_z hm_z
  replace hm_z := rn_getR (x := 178) (am_cur_of (i := (139, 3, .getfield 54, (12, 33, 1417), 0)) (by decide +kernel)) (by decide +kernel) hm_z
  replace hm_z := rn_iconst (w := 3) (am_cur_of (i := (142, 1, .iconst 3, (0, 0, 0), 0)) (by decide +kernel)) (by decide) hm_z
  replace hm_z := rn_iload_n (am_cur_of (i := (143, 1, .iload_n 1, (0, 0, 0), 0)) (by decide +kernel)) g1_z hm_z
  replace hm_z := rn_iadd (w := 5) (am_cur_of (i := (144, 1, .iadd, (0, 0, 0), 0)) (by decide +kernel)) (by decide) hm_z
  replace hm_z := rn_baload (N := 6) (q := 5) (v := rg_v h68_z 178 5) (am_cur_of (i := (145, 1, .baload, (0, 0, 0), 0)) (by decide +kernel)) (by decide +kernel) rfl ((rg_v_other (by omega)).trans ((rg_v_other (by omega)).trans (rfl))) hm_z
  obtain ⟨p80_z, hm_z⟩ := hm_z
  replace hm_z := rn_bastore (N := 6) (q := 2) (am_cur_of (i := (146, 1, .bastore, (0, 0, 0), 0)) (by decide +kernel)) (by decide +kernel) rfl hm_z
  obtain ⟨p81_z, hm_z⟩ := hm_z
  replace hm_z := rn_iinc (w := 3) (am_cur_of (i := (147, 3, .iinc 1 1, (0, 0, 0), 0)) (by decide +kernel)) g1_z (by decide) hm_z
  obtain ⟨_, s82_z, s83_z, g1_z, hm_z⟩ := hm_z
  replace g0_z := s82_z 0 _ (by decide) rfl g0_z
  clear s82_z s83_z
  replace hm_z := rn_goto (am_cur_of (i := (150, 3, .goto (-22), (62, 0, 0), 0)) (by decide +kernel)) hm_z
  replace hm_z := rn_iload_n (am_cur_of (i := (128, 1, .iload_n 1, (0, 0, 0), 0)) (by decide +kernel)) g1_z hm_z
  replace hm_z := rn_iconst (w := 3) (am_cur_of (i := (129, 1, .iconst 3, (0, 0, 0), 0)) (by decide +kernel)) (by decide) hm_z
  replace hm_z := rn_cmpT (am_cur_of (i := (130, 3, .if_icmp .ge 23, (77, 0, 0), 0)) (by decide +kernel)) (by decide) hm_z
  replace hm_z := rn_aload_n (am_cur_of (i := (153, 1, .aload_n 0, (0, 0, 0), 0)) (by decide +kernel)) g0_z hm_z
  replace hm_z := rn_getR (x := 179) (am_cur_of (i := (154, 3, .getfield 57, (12, 34, 1418), 0)) (by decide +kernel)) (by decide +kernel) hm_z
  replace hm_z := rn_iconst (w := 3) (am_cur_of (i := (157, 1, .iconst 3, (0, 0, 0), 0)) (by decide +kernel)) (by decide) hm_z
  replace hm_z := rn_callS (M' := am_m145) (ar := [.int 3, .ref 179]) (rest := []) (L := lv_args 0 [.ref 179, .int 3]) (am_cur_of (i := (158, 3, .invokestatic 234, (145, 1365, 3), 0)) (by decide +kernel)) rfl rfl rfl rfl hm_z
  obtain ⟨r84_z, h85_z, q86_z, hm_z⟩ := hm_z
  have vo := rn_void rfl q86_z
  subst vo
  clear q86_z
  replace hm_z : rn _ _ _ _ [] _ _ _ := hm_z
  replace hm_z := rn_aload_n (am_cur_of (i := (161, 1, .aload_n 0, (0, 0, 0), 0)) (by decide +kernel)) g0_z hm_z
  replace hm_z := rn_getR (x := 180) (am_cur_of (i := (162, 3, .getfield 60, (12, 35, 1419), 0)) (by decide +kernel)) (by decide +kernel) hm_z
  replace hm_z := rn_iconst (w := 3) (am_cur_of (i := (165, 1, .iconst 3, (0, 0, 0), 0)) (by decide +kernel)) (by decide) hm_z
  replace hm_z := rn_callS (M' := am_m145) (ar := [.int 3, .ref 180]) (rest := []) (L := lv_args 0 [.ref 180, .int 3]) (am_cur_of (i := (166, 3, .invokestatic 234, (145, 1365, 3), 0)) (by decide +kernel)) rfl rfl rfl rfl hm_z
  obtain ⟨r87_z, h88_z, q89_z, hm_z⟩ := hm_z
  have vo := rn_void rfl q89_z
  subst vo
  clear q89_z
  replace hm_z : rn _ _ _ _ [] _ _ _ := hm_z
  replace hm_z := rn_aload_n (am_cur_of (i := (169, 1, .aload_n 0, (0, 0, 0), 0)) (by decide +kernel)) g0_z hm_z
  replace hm_z := rn_getR (x := 181) (am_cur_of (i := (170, 3, .getfield 63, (12, 36, 1420), 0)) (by decide +kernel)) (by decide +kernel) hm_z
  replace hm_z := rn_bipush (w := 64) (am_cur_of (i := (173, 2, .bipush 64, (0, 0, 0), 0)) (by decide +kernel)) (by decide) hm_z
  replace hm_z := rn_callS (M' := am_m145) (ar := [.int 64, .ref 181]) (rest := []) (L := lv_args 0 [.ref 181, .int 64]) (am_cur_of (i := (175, 3, .invokestatic 234, (145, 1365, 3), 0)) (by decide +kernel)) rfl rfl rfl rfl hm_z
  obtain ⟨r90_z, h91_z, q92_z, hm_z⟩ := hm_z
  have vo := rn_void rfl q92_z
  subst vo
  clear q92_z
  replace hm_z : rn _ _ _ _ [] _ _ _ := hm_z
  replace hm_z := rn_aload_n (am_cur_of (i := (178, 1, .aload_n 0, (0, 0, 0), 0)) (by decide +kernel)) g0_z hm_z
  replace hm_z := rn_getR (x := 182) (am_cur_of (i := (179, 3, .getfield 66, (12, 37, 1421), 0)) (by decide +kernel)) (by decide +kernel) hm_z
  replace hm_z := rn_bipush (w := 64) (am_cur_of (i := (182, 2, .bipush 64, (0, 0, 0), 0)) (by decide +kernel)) (by decide) hm_z
  replace hm_z := rn_callS (M' := am_m145) (ar := [.int 64, .ref 182]) (rest := []) (L := lv_args 0 [.ref 182, .int 64]) (am_cur_of (i := (184, 3, .invokestatic 234, (145, 1365, 3), 0)) (by decide +kernel)) rfl rfl rfl rfl hm_z
  obtain ⟨r93_z, h94_z, q95_z, hm_z⟩ := hm_z
  have vo := rn_void rfl q95_z
  subst vo
  clear q95_z
  replace hm_z : rn _ _ _ _ [] _ _ _ := hm_z
  replace hm_z := rn_aload_n (am_cur_of (i := (187, 1, .aload_n 0, (0, 0, 0), 0)) (by decide +kernel)) g0_z hm_z
  replace hm_z := rn_getR (x := 183) (am_cur_of (i := (188, 3, .getfield 69, (12, 38, 1422), 0)) (by decide +kernel)) (by decide +kernel) hm_z
  replace hm_z := rn_bipush (w := 64) (am_cur_of (i := (191, 2, .bipush 64, (0, 0, 0), 0)) (by decide +kernel)) (by decide) hm_z
  replace hm_z := rn_callS (M' := am_m145) (ar := [.int 64, .ref 183]) (rest := []) (L := lv_args 0 [.ref 183, .int 64]) (am_cur_of (i := (193, 3, .invokestatic 234, (145, 1365, 3), 0)) (by decide +kernel)) rfl rfl rfl rfl hm_z
  obtain ⟨r96_z, h97_z, q98_z, hm_z⟩ := hm_z
  have vo := rn_void rfl q98_z
  subst vo
  clear q98_z
  replace hm_z : rn _ _ _ _ [] _ _ _ := hm_z
  replace hm_z := rn_aload_n (am_cur_of (i := (196, 1, .aload_n 0, (0, 0, 0), 0)) (by decide +kernel)) g0_z hm_z
  replace hm_z := rn_callV (M' := am_m146) (o := 164) (ar := []) (rest := []) (L := lv_args 0 [.ref 164]) (am_cur_of (i := (197, 3, .invokevirtual 238, (146, 1368, 3), 0)) (by decide +kernel)) rfl rfl rfl rfl hm_z
  obtain ⟨r99_z, h100_z, q101_z, hm_z⟩ := hm_z
  have vo := rn_void rfl q101_z
  subst vo
  have zb := kt_begin q101_z
  have sb := sf_146 q101_z
  replace hm_z : rn _ _ _ _ [] _ _ _ := hm_z
  replace hm_z := rn_vret (am_cur_of (i := (200, 1, .return_, (0, 0, 0), 0)) (by decide +kernel)) hm_z
  obtain ⟨e102_z, e103_z⟩ := hm_z
  rw [e103_z, zb 168 1 (by decide)]
  exact sb
theorem sc_text_2 {hq_z h1_z h2_z h3_z h4_z : am_H} {n1_z n3_z n4_z n5_z : Nat} (r54_z : rn n1_z am_m54 0 (lv_args 0 [.ref 2]) [] hq_z none h1_z) (r14_z : rn n3_z am_m14 0 (lv_args 0 [.ref 48, .ref 2]) [] (am_up (am_up h1_z 0 3 (.ref (25 - 2))) 0 2 (.ref 2)) none h2_z) (r57_z : rn n4_z am_m57 0 (lv_args 0 [.ref 60]) [] h2_z none h3_z) (r58_z : rn n5_z am_m58 0 (lv_args 0 [.ref 142]) [] h3_z none h4_z) : rg_v (am_up h4_z 0 8 (.int 0)) 48 0 = rg_v (am_up h4_z 0 8 (.int 0)) 2 1 := by
  rw [rg_v_other (by omega), rg_v_other (by omega), (kg_58 r58_z).2, (kg_57 r57_z).2, (kg_14_2 r14_z).2]
  rfl
theorem sc_text_23 {hq_z h1_z h2_z h3_z h4_z : am_H} {n1_z n3_z n4_z n5_z : Nat} (r54_z : rn n1_z am_m54 0 (lv_args 0 [.ref 23]) [] hq_z none h1_z) (r14_z : rn n3_z am_m14 0 (lv_args 0 [.ref 48, .ref 23]) [] (am_up (am_up h1_z 0 3 (.ref (25 - 23))) 0 2 (.ref 23)) none h2_z) (r57_z : rn n4_z am_m57 0 (lv_args 0 [.ref 60]) [] h2_z none h3_z) (r58_z : rn n5_z am_m58 0 (lv_args 0 [.ref 142]) [] h3_z none h4_z) : rg_v (am_up h4_z 0 8 (.int 0)) 48 0 = rg_v (am_up h4_z 0 8 (.int 0)) 23 1 := by
  rw [rg_v_other (by omega), rg_v_other (by omega), (kg_58 r58_z).2, (kg_57 r57_z).2, (kg_14_23 r14_z).2]
  rfl
