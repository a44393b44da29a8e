/-! ===== THE STATE ALIKE IN BOTH, ON (wip/r/gen99sg.py) ===== -/
theorem lent_G {t : Int32} {h : am_H} {d : Nat} (hd_z : d = 2 ∨ d = 23) (hG : ag_G t h) : 0 ≤ (rg_v h d 8).toInt ∧ (rg_v h d 8).toInt ≤ 99 := by
  rcases hd_z with rfl | rfl
  · have z := hG.1 2 8 (.inl 1) (by decide +kernel) (by decide)
    rw [show ab_hi ab_tab 2 8 = ab_i 0 99 by decide +kernel] at z
    obtain ⟨x, e, x0_z, x1_z⟩ := z
    unfold rg_v
    rw [e]
    exact ⟨x0_z, x1_z⟩
  · have z := hG.1 23 8 (.inl 1) (by decide +kernel) (by decide)
    rw [show ab_hi ab_tab 23 8 = ab_i 0 99 by decide +kernel] at z
    obtain ⟨x, e, x0_z, x1_z⟩ := z
    unfold rg_v
    rw [e]
    exact ⟨x0_z, x1_z⟩
theorem R8_text : ax_text R8 := by
  intro t t1_z a h h1_z h2_z r1_z r2_z n1_z n2_z hR hG hG2 hT F1 F2 rn1_z rn2_z
  refine ⟨R7_text t t1_z a h h1_z h2_z r1_z r2_z n1_z n2_z hR.1 hG hG2 hT F1 F2 rn1_z rn2_z, ?_⟩
  have K2 := (R5_text t t1_z a h h1_z h2_z r1_z r2_z n1_z n2_z hR.1.1.1 hG hG2 hT F1 F2 rn1_z rn2_z).2
  obtain ⟨-, D2, d, hd_z, D, E, O⟩ := tx_all hR.1.1.1.1.1 hG F1 rn1_z rn2_z
  have e02_z : h2_z 0 2 = h1_z 0 2 := F2 0 2 (by decide +kernel)
  have cv_z : ∀ o k, cQ o k → rg_v h2_z o k = rg_v h1_z o k := fun o k q => rg_v_fr F2 (cq_in (by decide +kernel) q)
  have mv : ∀ o q, mQ o q → rg_v h1_z o q = rg_v h o q := fun o q e => rg_v_fr F1 (mq_in (by decide +kernel) (by decide +kernel) e)
  have zp : ∀ p, (p = 2 ∨ p = 23) → zC p h1_z h2_z := by
    intro p hp_z
    rcases hp_z with rfl | rfl
    · exact zC_fr (by decide +kernel) F2
    · exact zC_fr (by decide +kernel) F2
  have tx : (h1_z 0 2 = .ref d → pv d h1_z ∧ (∀ j, 1 ≤ j → j < 17 → cS_z h1_z 48 j = if j = 2 then -1 else if j = 3 then rg_v h1_z d 8 else 0) ∧ rg_v h1_z 60 2 = 0 ∧ rg_v h1_z 60 1 = rg_v h 60 1 ∧ rg_v h1_z 0 8 = 0) ∧ (h1_z 0 2 = .ref (25 - d) → ∀ k, ¬ k = 1 → h1_z 0 k = h 0 k) := by
    rcases hd_z with rfl | rfl
    · exact sd_17_2 D E rn1_z
    · exact sd_17_23 D E rn1_z
  rcases O with ⟨q1_z, q2_z⟩ | ⟨-, zc, zm, ep, kc, km⟩ | X
  · subst q1_z
    refine ⟨fun p hp_z => ?_, St_e (by decide) cv_z (fun o q e => ?_) hR.2.2⟩
    · rw [e02_z] at hp_z
      have hp2_z := pk_p hd_z E hp_z
      exact pv_z (zp p (hp2_z.elim (fun q => Or.inl q.1) (fun q => Or.inr q.1))) (hR.2.1 p hp_z)
    · rw [q2_z]
      exact rg_v_other (by unfold mQ at e; omega)
  · have k0_z := tx.2 ep
    refine ⟨fun p hp_z => ?_, St_e (by decide) (fun o k q => (cv_z o k q).trans ?_) (fun o q e => ?_) hR.2.2⟩
    · rw [e02_z] at hp_z
      have hp2_z := pk_p hd_z ep hp_z
      have e25_z : 25 - d = p := by rcases hp2_z with ⟨rfl, rfl⟩ | ⟨rfl, rfl⟩ <;> rfl
      have v := hR.2.1 p (by rw [E, e25_z])
      rw [e25_z] at zc
      exact pv_z (zC_t zc (zp p (hp2_z.elim (fun q => Or.inl q.1) (fun q => Or.inr q.1)))) v
    · unfold rg_v
      by_cases o0_z : o = 0
      · subst o0_z
        rw [k0_z k (by unfold cQ at q; omega)]
      · rw [kc o k (by unfold cQ at q; unfold dk_o; omega) o0_z]
    · refine Eq.trans ?_ (mv o q e)
      unfold rg_v
      have m := e
      unfold mQ at m
      rcases m with ⟨rfl, rfl | rfl | rfl⟩ | m | m | m | m | m
      · rw [km.1 57 (by decide)]
      · rw [km.1 77 (by decide)]
      · rw [km.1 79 (by decide)]
      · rw [km.2 o q (by omega)]
      · rw [km.2 o q (by omega)]
      · rw [km.2 o q (by omega)]
      · rw [km.2 o q (by omega)]
      · rw [km.2 o q (by omega)]
  · have hd1_z : h1_z 0 2 = .ref d := by
      obtain ⟨hq_z, gq, x1_z, x2_z, x3_z, x4_z, m1_z, m2_z, m3_z, m4_z, m5_z, A, w1_z, r54_z, r144_z, r14_z, r57_z, r58_z, w2_z, w3_z⟩ := X
      exact w3_z
    obtain ⟨V, cs, c2_z, c1_z, c8_z⟩ := tx.1 hd1_z
    have ms : rg_v h2_z 164 77 = 0 ∧ rg_v h2_z 164 79 = 0 ∧ rg_v h2_z 164 60 = 0 ∧ rg_v h2_z 164 61 = 0 ∧ rg_v h2_z 164 62 = -1 ∧ bF (mS h2_z 0) (rg_v h2_z 168 3) := by
      obtain ⟨hq_z, gq, x1_z, x2_z, x3_z, x4_z, m1_z, m2_z, m3_z, m4_z, m5_z, A, w1_z, r54_z, r144_z, r14_z, r57_z, r58_z, w2_z, w3_z⟩ := X
      exact sm_144 r144_z
    obtain ⟨m77_z, m79_z, -, -, -, mb⟩ := ms
    have k := K2 d (e02_z.trans hd1_z)
    have e8_z : rg_v h1_z d 8 = rg_v h2_z 168 3 := (zp d hd_z d 8 (zcB_i (i := 0) (Or.inl (by decide))) (by omega)).symm.trans k.1.2.2.2.1
    have p8_z : 0 ≤ (rg_v h1_z d 8).toInt ∧ (rg_v h1_z d 8).toInt ≤ 99 := by
      rw [← zp d hd_z d 8 (zcB_i (i := 0) (Or.inl (by decide))) (by omega)]
      exact lent_G hd_z hG2
    have z0_z : (0 : Int32).toInt = 0 := by decide
    refine ⟨fun p hp_z => ?_, sRec_e (lo := 1) (f := cS_z h1_z 48) (m := cS_z h1_z 48) (by decide) (fun j _ _ => cS_v (fun o k a b => cv_z o k (by unfold cQ; omega)) j) (fun j j1_z j17_z => ?_) ⟨fun _ _ _ => rfl, ?_⟩, ⟨?_, ?_, ?_, fun j hj_z => ?_⟩, ?_, fun hb_z => ?_⟩
    · rw [e02_z, hd1_z] at hp_z
      cases hp_z
      exact pv_z (zp d hd_z) V
    · rw [cs j j1_z j17_z, mb j j1_z j17_z, e8_z]
    · have cz : ∀ j, 4 ≤ j → j < 17 → cS_z h1_z 48 j = 0 := fun j j4_z j17_z => by
        rw [cs j (by omega) j17_z, if_neg (by omega), if_neg (by omega)]
      have o1_z : cS_z h1_z 48 1 = 0 := by rw [cs 1 (by decide) (by decide)]; rfl
      have o3_z : cS_z h1_z 48 3 = rg_v h1_z d 8 := by rw [cs 3 (by decide) (by decide)]; rfl
      unfold okF
      rw [o1_z, o3_z]
      refine ⟨by decide, p8_z, fun k hk_z => ?_⟩
      rw [cz (13 + k) (by omega) (by omega), cz (5 + k) (by omega) (by omega)]
      decide
    · rw [cv_z 60 1 (by unfold cQ; omega), c1_z]
      exact hR.2.2.2.1.1
    · rw [cv_z 60 2 (by unfold cQ; omega), c2_z]
      decide
    · rw [cv_z 60 2 (by unfold cQ; omega), c2_z, m77_z]
    · rw [cv_z 60 2 (by unfold cQ; omega), c2_z, z0_z] at hj_z
      omega
    · rw [cv_z 0 8 (by unfold cQ; omega), c8_z, m79_z]
    · rw [cv_z 0 8 (by unfold cQ; omega), c8_z] at hb_z
      exact absurd rfl hb_z
theorem R8_All : ax_All R8 := ⟨R8_feed, R8_text, R8_fault, R8_named, R8_look, R8_law, R8_blow, R8_waits, R8_pump, R8_patch, R8_leak, R8_ever, R8_best, R8_lasts, R8_firm, R8_up, R8_upAt, R8_cheapest, R8_lend, R8_seek, R8_mean, R8_rule, R8_fairest, R8_cheek, R8_strike, R8_known, R8_fits, R8_chance, R8_tried, R8_undo, R8_keep, R8_back, R8_count⟩
theorem R8_k0 : (rg_v am_h0 2 0 = 500 ∧ rg_v am_h0 2 1 = 0 ∧ rg_v am_h0 2 2 = 0 ∧ rg_v am_h0 2 4 = 0 ∧ rg_v am_h0 2 7 = 0 ∧ rg_v am_h0 2 8 = 0 ∧ rg_v am_h0 2 9 = 0 ∧ rg_v am_h0 2 12 = 0) ∧ (∀ j, j < 17 → cS_z am_h0 48 j = mS am_h0 0 j) ∧ ((cS_z am_h0 48 1).toInt = 0 ∧ (cS_z am_h0 48 3).toInt = 0 ∧ ∀ k, k < 4 → (cS_z am_h0 48 (13 + k)).toInt = 0 ∧ (cS_z am_h0 48 (5 + k)).toInt = 0) ∧ (0 ≤ (rg_v am_h0 60 1).toInt ∧ (rg_v am_h0 60 1).toInt < 20) ∧ rg_v am_h0 60 2 = 0 ∧ rg_v am_h0 164 77 = 0 ∧ rg_v am_h0 0 8 = 0 ∧ rg_v am_h0 164 79 = 0 := by decide +kernel
theorem R8_0 : R8 am_h0 := by
  obtain ⟨ev_z, key, ⟨k1_z, k3_z, kk⟩, n01_z, z2_z, z77_z, z8_z, z79_z⟩ := R8_k0
  have z0_z : (0 : Int32).toInt = 0 := by decide
  refine ⟨R7_0, fun p hp_z => ?_, ⟨fun j j1_z j17_z => key j j17_z, ?_⟩, ⟨n01_z, ?_, ?_, fun j hj_z => ?_⟩, ?_, fun hb_z => ?_⟩
  · have e : am_h0 0 2 = .ref 2 := rg_r0 (x := 2) (by decide +kernel) (rg_any gd_h0 (kd := .inl 0) (by decide +kernel) (by decide) (by decide +kernel))
    rw [e] at hp_z
    cases hp_z
    have q0_z : (500 : Int32).toInt = 500 := by decide
    obtain ⟨f0_z, f1_z, f2_z, f4_z, f7_z, f8_z, f9_z, f12_z⟩ := ev_z
    refine ⟨?_, fun b hb_z => ?_, fun b hb_z => ?_, Or.inl ⟨f7_z, f8_z⟩, fun b hb_z => ?_, fun b hb_z => ?_, ?_⟩
    · unfold pv1_z
      rw [f0_z, f1_z]
      omega
    · rw [f2_z] at hb_z; omega
    · rw [f4_z] at hb_z; omega
    · rw [f9_z] at hb_z; omega
    · rw [f12_z] at hb_z; omega
    · unfold pv7_z
      rw [f2_z, f4_z, f9_z, f12_z]
      omega
  · refine ⟨by omega, by omega, fun k hk_z => ?_⟩
    have q := kk k hk_z
    omega
  · rw [z2_z]
    decide
  · rw [z2_z, z77_z]
  · rw [z2_z, z0_z] at hj_z
    omega
  · rw [z8_z, z79_z]
  · exact absurd z8_z hb_z
theorem R8_y_patch : ay_patch R8 := by
  intro x0_z x1_z x2_z x3_z x4_z x5_z x6_z x7_z x8_z hR g0_z g1_z g2_z f1_z f2_z y0_z y1_z
  obtain ⟨p, hp_z, D, K, V, B, S, T⟩ := R8_in hR g0_z (by decide +kernel) f1_z
  have L : rg_v x2_z p 18 = rg_v x3_z 164 58 := (hR.1.2 p D).trans (rg_v_fr f1_z (by decide +kernel)).symm
  rcases hp_z with rfl | rfl
  · exact (pt_2 D S K L y0_z y1_z (i_fr (by decide +kernel) (by decide +kernel) f1_z) (r_fr (by decide +kernel) f2_z) (rg_v_fr f2_z (by decide +kernel))).1
  · exact (pt_23 D S K L y0_z y1_z (i_fr (by decide +kernel) (by decide +kernel) f1_z) (r_fr (by decide +kernel) f2_z) (rg_v_fr f2_z (by decide +kernel))).1
theorem R8_y_undo : ay_undo R8 := by
  intro x0_z x1_z x2_z x3_z x4_z x5_z x6_z x7_z hR g0_z g1_z g2_z f1_z f2_z y0_z y1_z
  obtain ⟨p, hp_z, D, K, V, B, S, T⟩ := R8_in hR g0_z (by decide +kernel) f1_z
  exact (un_ S y0_z y1_z (i_fr (by decide +kernel) (by decide +kernel) f1_z) (r_fr (by decide +kernel) f2_z) (rg_v_fr f2_z (by decide +kernel))).1
theorem R8_y_keep : ay_keep R8 := by
  intro x0_z x1_z x2_z x3_z x4_z x5_z x6_z x7_z hR g0_z g1_z g2_z f1_z f2_z y0_z y1_z
  obtain ⟨p, hp_z, D, K, V, B, S, T⟩ := R8_in hR g0_z (by decide +kernel) f1_z
  exact (kp_pair S (se_139 y0_z) (mf_251 y1_z) (rg_v_fr f2_z (by decide +kernel)) (r_fr (by decide +kernel) f2_z)).1
theorem R8_y_back : ay_back R8 := by
  intro x0_z x1_z x2_z x3_z x4_z x5_z x6_z x7_z hR g0_z g1_z g2_z f1_z f2_z y0_z y1_z
  obtain ⟨p, hp_z, D, K, V, B, S, T⟩ := R8_in hR g0_z (by decide +kernel) f1_z
  exact (bc_pair S (i_fr (by decide +kernel) (by decide +kernel) f1_z) (r_fr (by decide +kernel) f2_z) (rg_v_fr f2_z (by decide +kernel)) (se_140 y0_z) (mf_252 y1_z)).1
