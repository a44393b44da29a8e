/-! ===== THE STATE ALIKE IN BOTH, ON (wip/r/gen99sg.py) ===== -/
def i4B (q : Nat × Nat) : Bool := !(Nat.ble 56 q.1 && Nat.ble q.1 59)
theorem i4_in {md : List (Nat × Nat)} {o k : Nat} (hb_z : md.all i4B = true) (h : 56 ≤ o ∧ o ≤ 59) : ab_in md o k = false := by
  refine in_of hb_z ?_ ?_
  · unfold i4B
    dsimp only
    rw [ble_t h.1, ble_t h.2]
    rfl
  · unfold i4B
    dsimp only
    rw [ble_t h.1, ble_t h.2]
    rfl
theorem i_fr {md : List (Nat × Nat)} {h h' : am_H} (hb_z : md.all i4B = true) (h8_z : ab_in md 0 8 = false) (f : ab_Fr md h h') : ∀ o k, (56 ≤ o ∧ o ≤ 59) ∨ (o = 0 ∧ k = 8) → rg_v h' o k = rg_v h o k := by
  intro o k q
  rcases q with q | ⟨rfl, rfl⟩
  · exact rg_v_fr f (i4_in hb_z q)
  · exact rg_v_fr f h8_z
theorem r_fr {md : List (Nat × Nat)} {h h' : am_H} {o : Nat} (hb_z : md.all (fun q => !(Nat.beq q.1 o)) = true) (f : ab_Fr md h h') : ∀ q, rg_v h' o q = rg_v h o q := fun q => rg_v_fr f (rg_v_in hb_z q)
/-- behind the model's run the class's places stay -/
theorem St_2 {md : List (Nat × Nat)} {h1_z h2_z : am_H} (hb_z : md.all cqB = true) (f2_z : ab_Fr md h1_z h2_z) (S : St 1 h1_z h2_z) : St 1 h2_z h2_z := St_e (by decide) (fun o k q => rg_v_fr f2_z (cq_in hb_z q)) (fun _ _ _ => rfl) S
theorem R8_feed : ax_feed R8 := fun a b c d e f g h h1_z h2_z r1_z r2_z n1_z n2_z hR hG hG2 f1_z f2_z x y => ⟨R7_feed a b c d e f g h h1_z h2_z r1_z r2_z n1_z n2_z hR.1 hG hG2 f1_z f2_z x y, PV_c (by decide +kernel) f2_z (R3_fD (by decide +kernel) f1_z hR.1.1.1.1.1.1) (PV_c (by decide +kernel) f1_z hR.1.1.1.1.1.1 hR.2.1), St_c (by decide +kernel) f2_z (St_c (by decide +kernel) f1_z hR.2.2)⟩
theorem R8_fault : ax_fault R8 := fun x0_z x1_z x2_z x3_z x4_z x5_z x6_z x7_z x8_z hR g0_z g1_z g2_z f1_z f2_z y0_z y1_z => ⟨R7_fault x0_z x1_z x2_z x3_z x4_z x5_z x6_z x7_z x8_z hR.1 g0_z g1_z g2_z f1_z f2_z y0_z y1_z, PV_c (by decide +kernel) f2_z (R3_fD (by decide +kernel) f1_z hR.1.1.1.1.1.1) (PV_c (by decide +kernel) f1_z hR.1.1.1.1.1.1 hR.2.1), St_c (by decide +kernel) f2_z (St_c (by decide +kernel) f1_z hR.2.2)⟩
theorem R8_named : ax_named R8 := fun x0_z x1_z x2_z x3_z x4_z x5_z x6_z x7_z x8_z x9_z hR g0_z g1_z g2_z f1_z f2_z y0_z y1_z => ⟨R7_named x0_z x1_z x2_z x3_z x4_z x5_z x6_z x7_z x8_z x9_z hR.1 g0_z g1_z g2_z f1_z f2_z y0_z y1_z, PV_c (by decide +kernel) f2_z (R3_fD (by decide +kernel) f1_z hR.1.1.1.1.1.1) (PV_c (by decide +kernel) f1_z hR.1.1.1.1.1.1 hR.2.1), St_c (by decide +kernel) f2_z (St_c (by decide +kernel) f1_z hR.2.2)⟩
theorem R8_look : ax_look R8 := fun x0_z x1_z x2_z x3_z x4_z x5_z x6_z x7_z hR g0_z g1_z g2_z f1_z f2_z y0_z => ⟨R7_look x0_z x1_z x2_z x3_z x4_z x5_z x6_z x7_z hR.1 g0_z g1_z g2_z f1_z f2_z y0_z, PV_c (by decide +kernel) f2_z (R3_fD (by decide +kernel) f1_z hR.1.1.1.1.1.1) (PV_c (by decide +kernel) f1_z hR.1.1.1.1.1.1 hR.2.1), St_c (by decide +kernel) f2_z (St_c (by decide +kernel) f1_z hR.2.2)⟩
theorem R8_law : ax_law R8 := fun x0_z x1_z x2_z x3_z x4_z x5_z x6_z x7_z x8_z x9_z hR g0_z g1_z g2_z f1_z f2_z y0_z y1_z => ⟨R7_law x0_z x1_z x2_z x3_z x4_z x5_z x6_z x7_z x8_z x9_z hR.1 g0_z g1_z g2_z f1_z f2_z y0_z y1_z, PV_c (by decide +kernel) f2_z (R3_fD (by decide +kernel) f1_z hR.1.1.1.1.1.1) (PV_c (by decide +kernel) f1_z hR.1.1.1.1.1.1 hR.2.1), St_c (by decide +kernel) f2_z (St_c (by decide +kernel) f1_z hR.2.2)⟩

theorem R8_blow : ax_blow R8 := by
  intro x0_z x1_z x2_z x3_z x4_z x5_z x6_z x7_z x8_z x9_z hR g0_z g1_z g2_z f1_z f2_z y0_z y1_z
  refine ⟨R7_blow x0_z x1_z x2_z x3_z x4_z x5_z x6_z x7_z x8_z x9_z hR.1 g0_z g1_z g2_z f1_z f2_z y0_z y1_z, PV_c (by decide +kernel) f2_z (R3_fD (by decide +kernel) f1_z hR.1.1.1.1.1.1) (PV_c (by decide +kernel) f1_z hR.1.1.1.1.1.1 hR.2.1), St_2 (by decide +kernel) f2_z ?_⟩
  obtain ⟨p, hp_z, D, K, V, B, S, T⟩ := R8_in hR g0_z (by decide +kernel) f1_z
  rcases hp_z with rfl | rfl
  · exact bl_2 D S K V B T y0_z y1_z (i_fr (by decide +kernel) (by decide +kernel) f1_z) (r_fr (by decide +kernel) f2_z) (rg_v_fr f2_z (by decide +kernel))
  · exact bl_23 D S K V B T y0_z y1_z (i_fr (by decide +kernel) (by decide +kernel) f1_z) (r_fr (by decide +kernel) f2_z) (rg_v_fr f2_z (by decide +kernel))

theorem R8_waits : ax_waits R8 := by
  intro x0_z x1_z x2_z x3_z x4_z x5_z x6_z x7_z x8_z x9_z hR g0_z g1_z g2_z u0_z u1_z f1_z f2_z y0_z y1_z
  refine ⟨R7_waits x0_z x1_z x2_z x3_z x4_z x5_z x6_z x7_z x8_z x9_z hR.1 g0_z g1_z g2_z u0_z u1_z f1_z f2_z y0_z y1_z, PV_c (by decide +kernel) f2_z (R3_fD (by decide +kernel) f1_z hR.1.1.1.1.1.1) (PV_c (by decide +kernel) f1_z hR.1.1.1.1.1.1 hR.2.1), St_2 (by decide +kernel) f2_z ?_⟩
  obtain ⟨p, hp_z, D, K, V, B, S, T⟩ := R8_in hR g0_z (by decide +kernel) f1_z
  rcases hp_z with rfl | rfl
  · exact wt_2 D S y0_z y1_z (i_fr (by decide +kernel) (by decide +kernel) f1_z) (r_fr (by decide +kernel) f2_z) (rg_v_fr f2_z (by decide +kernel))
  · exact wt_23 D S y0_z y1_z (i_fr (by decide +kernel) (by decide +kernel) f1_z) (r_fr (by decide +kernel) f2_z) (rg_v_fr f2_z (by decide +kernel))

theorem R8_pump : ax_pump R8 := by
  intro x0_z x1_z x2_z x3_z x4_z x5_z x6_z x7_z x8_z hR g0_z g1_z g2_z f1_z f2_z y0_z y1_z
  refine ⟨R7_pump x0_z x1_z x2_z x3_z x4_z x5_z x6_z x7_z x8_z hR.1 g0_z g1_z g2_z f1_z f2_z y0_z y1_z, PV_c (by decide +kernel) f2_z (R3_fD (by decide +kernel) f1_z hR.1.1.1.1.1.1) (PV_c (by decide +kernel) f1_z hR.1.1.1.1.1.1 hR.2.1), St_2 (by decide +kernel) f2_z ?_⟩
  obtain ⟨p, hp_z, D, K, V, B, S, T⟩ := R8_in hR g0_z (by decide +kernel) f1_z
  rcases hp_z with rfl | rfl
  · exact pm_2 D S K V y0_z y1_z (i_fr (by decide +kernel) (by decide +kernel) f1_z) (r_fr (by decide +kernel) f2_z) (rg_v_fr f2_z (by decide +kernel))
  · exact pm_23 D S K V y0_z y1_z (i_fr (by decide +kernel) (by decide +kernel) f1_z) (r_fr (by decide +kernel) f2_z) (rg_v_fr f2_z (by decide +kernel))

theorem R8_patch : ax_patch R8 := by
  intro x0_z x1_z x2_z x3_z x4_z x5_z x6_z x7_z x8_z hR g0_z g1_z g2_z f1_z f2_z y0_z y1_z
  refine ⟨R7_patch x0_z x1_z x2_z x3_z x4_z x5_z x6_z x7_z x8_z hR.1 g0_z g1_z g2_z f1_z f2_z y0_z y1_z, PV_c (by decide +kernel) f2_z (R3_fD (by decide +kernel) f1_z hR.1.1.1.1.1.1) (PV_c (by decide +kernel) f1_z hR.1.1.1.1.1.1 hR.2.1), St_2 (by decide +kernel) f2_z ?_⟩
  obtain ⟨p, hp_z, D, K, V, B, S, T⟩ := R8_in hR g0_z (by decide +kernel) f1_z
  have L : rg_v x2_z p 18 = rg_v x3_z 164 58 := (hR.1.2 p D).trans (rg_v_fr f1_z (by decide +kernel)).symm
  rcases hp_z with rfl | rfl
  · exact (pt_2 D S K L y0_z y1_z (i_fr (by decide +kernel) (by decide +kernel) f1_z) (r_fr (by decide +kernel) f2_z) (rg_v_fr f2_z (by decide +kernel))).2
  · exact (pt_23 D S K L y0_z y1_z (i_fr (by decide +kernel) (by decide +kernel) f1_z) (r_fr (by decide +kernel) f2_z) (rg_v_fr f2_z (by decide +kernel))).2
theorem R8_leak : ax_leak R8 := fun x0_z x1_z x2_z x3_z x4_z x5_z x6_z x7_z hR g0_z g1_z g2_z f1_z f2_z y0_z y1_z => ⟨R7_leak x0_z x1_z x2_z x3_z x4_z x5_z x6_z x7_z hR.1 g0_z g1_z g2_z f1_z f2_z y0_z y1_z, PV_c (by decide +kernel) f2_z (R3_fD (by decide +kernel) f1_z hR.1.1.1.1.1.1) (PV_c (by decide +kernel) f1_z hR.1.1.1.1.1.1 hR.2.1), St_c (by decide +kernel) f2_z (St_c (by decide +kernel) f1_z hR.2.2)⟩
theorem R8_ever : ax_ever R8 := fun x0_z x1_z x2_z x3_z x4_z x5_z x6_z x7_z x8_z hR g0_z g1_z g2_z f1_z f2_z y0_z y1_z => ⟨R7_ever x0_z x1_z x2_z x3_z x4_z x5_z x6_z x7_z x8_z hR.1 g0_z g1_z g2_z f1_z f2_z y0_z y1_z, PV_c (by decide +kernel) f2_z (R3_fD (by decide +kernel) f1_z hR.1.1.1.1.1.1) (PV_c (by decide +kernel) f1_z hR.1.1.1.1.1.1 hR.2.1), St_m (by decide +kernel) f2_z (fk_213 (tk_G g1_z) y1_z) (rg_v_fr f2_z (by decide +kernel)) (St_c (by decide +kernel) f1_z hR.2.2)⟩
theorem R8_best : ax_best R8 := fun x0_z x1_z x2_z x3_z x4_z x5_z x6_z x7_z x8_z x9_z hR g0_z g1_z g2_z f1_z f2_z y0_z y1_z => ⟨R7_best x0_z x1_z x2_z x3_z x4_z x5_z x6_z x7_z x8_z x9_z hR.1 g0_z g1_z g2_z f1_z f2_z y0_z y1_z, PV_c (by decide +kernel) f2_z (R3_fD (by decide +kernel) f1_z hR.1.1.1.1.1.1) (PV_c (by decide +kernel) f1_z hR.1.1.1.1.1.1 hR.2.1), St_m (by decide +kernel) f2_z (fk_217 y1_z) (rg_v_fr f2_z (by decide +kernel)) (St_c (by decide +kernel) f1_z hR.2.2)⟩
theorem R8_lasts : ax_lasts R8 := fun x0_z x1_z x2_z x3_z x4_z x5_z x6_z x7_z x8_z x9_z hR g0_z g1_z g2_z f1_z f2_z y0_z y1_z => ⟨R7_lasts x0_z x1_z x2_z x3_z x4_z x5_z x6_z x7_z x8_z x9_z hR.1 g0_z g1_z g2_z f1_z f2_z y0_z y1_z, PV_c (by decide +kernel) f2_z (R3_fD (by decide +kernel) f1_z hR.1.1.1.1.1.1) (PV_c (by decide +kernel) f1_z hR.1.1.1.1.1.1 hR.2.1), St_m (by decide +kernel) f2_z (fk_223 y1_z) (rg_v_fr f2_z (by decide +kernel)) (St_c (by decide +kernel) f1_z hR.2.2)⟩
theorem R8_firm : ax_firm R8 := fun x0_z x1_z x2_z x3_z x4_z x5_z x6_z x7_z x8_z x9_z hR g0_z g1_z g2_z f1_z f2_z y0_z y1_z => ⟨R7_firm x0_z x1_z x2_z x3_z x4_z x5_z x6_z x7_z x8_z x9_z hR.1 g0_z g1_z g2_z f1_z f2_z y0_z y1_z, PV_c (by decide +kernel) f2_z (R3_fD (by decide +kernel) f1_z hR.1.1.1.1.1.1) (PV_c (by decide +kernel) f1_z hR.1.1.1.1.1.1 hR.2.1), St_m (by decide +kernel) f2_z (fk_225 y1_z) (rg_v_fr f2_z (by decide +kernel)) (St_c (by decide +kernel) f1_z hR.2.2)⟩
theorem R8_up : ax_up R8 := fun x0_z x1_z x2_z x3_z x4_z x5_z x6_z x7_z x8_z x9_z x10_z hR g0_z g1_z g2_z f1_z f2_z y0_z y1_z => ⟨R7_up x0_z x1_z x2_z x3_z x4_z x5_z x6_z x7_z x8_z x9_z x10_z hR.1 g0_z g1_z g2_z f1_z f2_z y0_z y1_z, PV_c (by decide +kernel) f2_z (R3_fD (by decide +kernel) f1_z hR.1.1.1.1.1.1) (PV_c (by decide +kernel) f1_z hR.1.1.1.1.1.1 hR.2.1), St_m (by decide +kernel) f2_z (fk_226 y1_z) (rg_v_fr f2_z (by decide +kernel)) (St_c (by decide +kernel) f1_z hR.2.2)⟩
theorem R8_upAt : ax_upAt R8 := fun x0_z x1_z x2_z x3_z x4_z x5_z x6_z x7_z x8_z x9_z x10_z x11_z hR g0_z g1_z g2_z f1_z f2_z y0_z y1_z => ⟨R7_upAt x0_z x1_z x2_z x3_z x4_z x5_z x6_z x7_z x8_z x9_z x10_z x11_z hR.1 g0_z g1_z g2_z f1_z f2_z y0_z y1_z, PV_c (by decide +kernel) f2_z (R3_fD (by decide +kernel) f1_z hR.1.1.1.1.1.1) (PV_c (by decide +kernel) f1_z hR.1.1.1.1.1.1 hR.2.1), St_m (by decide +kernel) f2_z (fk_230 y1_z) (rg_v_fr f2_z (by decide +kernel)) (St_c (by decide +kernel) f1_z hR.2.2)⟩
theorem R8_cheapest : ax_cheapest R8 := fun x0_z x1_z x2_z x3_z x4_z x5_z x6_z x7_z x8_z x9_z x10_z hR g0_z g1_z g2_z f1_z f2_z y0_z y1_z => ⟨R7_cheapest x0_z x1_z x2_z x3_z x4_z x5_z x6_z x7_z x8_z x9_z x10_z hR.1 g0_z g1_z g2_z f1_z f2_z y0_z y1_z, PV_c (by decide +kernel) f2_z (R3_fD (by decide +kernel) f1_z hR.1.1.1.1.1.1) (PV_c (by decide +kernel) f1_z hR.1.1.1.1.1.1 hR.2.1), St_m (by decide +kernel) f2_z (fk_231 y1_z) (rg_v_fr f2_z (by decide +kernel)) (St_c (by decide +kernel) f1_z hR.2.2)⟩
theorem R8_lend : ax_lend R8 := fun x0_z x1_z x2_z x3_z x4_z x5_z x6_z x7_z x8_z x9_z hR g0_z g1_z g2_z f1_z f2_z y0_z y1_z => ⟨R7_lend x0_z x1_z x2_z x3_z x4_z x5_z x6_z x7_z x8_z x9_z hR.1 g0_z g1_z g2_z f1_z f2_z y0_z y1_z, PV_c (by decide +kernel) f2_z (R3_fD (by decide +kernel) f1_z hR.1.1.1.1.1.1) (PV_c (by decide +kernel) f1_z hR.1.1.1.1.1.1 hR.2.1), St_m (by decide +kernel) f2_z (fk_232 y1_z) (rg_v_fr f2_z (by decide +kernel)) (St_c (by decide +kernel) f1_z hR.2.2)⟩
theorem R8_seek : ax_seek R8 := fun x0_z x1_z x2_z x3_z x4_z x5_z x6_z x7_z x8_z x9_z hR g0_z g1_z g2_z f1_z f2_z y0_z y1_z => ⟨R7_seek x0_z x1_z x2_z x3_z x4_z x5_z x6_z x7_z x8_z x9_z hR.1 g0_z g1_z g2_z f1_z f2_z y0_z y1_z, PV_c (by decide +kernel) f2_z (R3_fD (by decide +kernel) f1_z hR.1.1.1.1.1.1) (PV_c (by decide +kernel) f1_z hR.1.1.1.1.1.1 hR.2.1), St_c (by decide +kernel) f2_z (St_c (by decide +kernel) f1_z hR.2.2)⟩
theorem R8_mean : ax_mean R8 := fun x0_z x1_z x2_z x3_z x4_z x5_z x6_z x7_z x8_z hR g0_z g1_z g2_z f1_z f2_z y0_z y1_z => ⟨R7_mean x0_z x1_z x2_z x3_z x4_z x5_z x6_z x7_z x8_z hR.1 g0_z g1_z g2_z f1_z f2_z y0_z y1_z, PV_c (by decide +kernel) f2_z (R3_fD (by decide +kernel) f1_z hR.1.1.1.1.1.1) (PV_c (by decide +kernel) f1_z hR.1.1.1.1.1.1 hR.2.1), St_c (by decide +kernel) f2_z (St_c (by decide +kernel) f1_z hR.2.2)⟩
theorem R8_rule : ax_rule R8 := fun x0_z x1_z x2_z x3_z x4_z x5_z x6_z x7_z x8_z hR g0_z g1_z g2_z f1_z f2_z y0_z y1_z => ⟨R7_rule x0_z x1_z x2_z x3_z x4_z x5_z x6_z x7_z x8_z hR.1 g0_z g1_z g2_z f1_z f2_z y0_z y1_z, PV_c (by decide +kernel) f2_z (R3_fD (by decide +kernel) f1_z hR.1.1.1.1.1.1) (PV_c (by decide +kernel) f1_z hR.1.1.1.1.1.1 hR.2.1), St_m (by decide +kernel) f2_z (fk_236 (tk_G g1_z) y1_z) (rg_v_fr f2_z (by decide +kernel)) (St_c (by decide +kernel) f1_z hR.2.2)⟩
theorem R8_fairest : ax_fairest R8 := fun x0_z x1_z x2_z x3_z x4_z x5_z x6_z x7_z hR g0_z g1_z g2_z f1_z f2_z y0_z y1_z => ⟨R7_fairest x0_z x1_z x2_z x3_z x4_z x5_z x6_z x7_z hR.1 g0_z g1_z g2_z f1_z f2_z y0_z y1_z, PV_c (by decide +kernel) f2_z (R3_fD (by decide +kernel) f1_z hR.1.1.1.1.1.1) (PV_c (by decide +kernel) f1_z hR.1.1.1.1.1.1 hR.2.1), St_m (by decide +kernel) f2_z (fk_239 (tk_G g1_z) y1_z) (rg_v_fr f2_z (by decide +kernel)) (St_c (by decide +kernel) f1_z hR.2.2)⟩
theorem R8_cheek : ax_cheek R8 := fun x0_z x1_z x2_z x3_z x4_z x5_z x6_z x7_z x8_z x9_z x10_z x11_z hR g0_z g1_z g2_z u0_z u1_z f1_z f2_z y0_z y1_z => ⟨R7_cheek x0_z x1_z x2_z x3_z x4_z x5_z x6_z x7_z x8_z x9_z x10_z x11_z hR.1 g0_z g1_z g2_z u0_z u1_z f1_z f2_z y0_z y1_z, PV_c (by decide +kernel) f2_z (R3_fD (by decide +kernel) f1_z hR.1.1.1.1.1.1) (PV_c (by decide +kernel) f1_z hR.1.1.1.1.1.1 hR.2.1), St_c (by decide +kernel) f2_z (St_c (by decide +kernel) f1_z hR.2.2)⟩
theorem R8_strike : ax_strike R8 := fun x0_z x1_z x2_z x3_z x4_z x5_z x6_z x7_z x8_z hR g0_z g1_z g2_z f1_z f2_z y0_z y1_z => ⟨R7_strike x0_z x1_z x2_z x3_z x4_z x5_z x6_z x7_z x8_z hR.1 g0_z g1_z g2_z f1_z f2_z y0_z y1_z, PV_c (by decide +kernel) f2_z (R3_fD (by decide +kernel) f1_z hR.1.1.1.1.1.1) (PV_c (by decide +kernel) f1_z hR.1.1.1.1.1.1 hR.2.1), St_c (by decide +kernel) f2_z (St_c (by decide +kernel) f1_z hR.2.2)⟩
theorem R8_known : ax_known R8 := fun x0_z x1_z x2_z x3_z x4_z x5_z x6_z x7_z x8_z hR g0_z g1_z g2_z f1_z f2_z y0_z y1_z => ⟨R7_known x0_z x1_z x2_z x3_z x4_z x5_z x6_z x7_z x8_z hR.1 g0_z g1_z g2_z f1_z f2_z y0_z y1_z, PV_c (by decide +kernel) f2_z (R3_fD (by decide +kernel) f1_z hR.1.1.1.1.1.1) (PV_c (by decide +kernel) f1_z hR.1.1.1.1.1.1 hR.2.1), St_c (by decide +kernel) f2_z (St_c (by decide +kernel) f1_z hR.2.2)⟩
theorem R8_fits : ax_fits R8 := fun x0_z x1_z x2_z x3_z x4_z x5_z x6_z x7_z hR g0_z g1_z g2_z f1_z f2_z y0_z y1_z => ⟨R7_fits x0_z x1_z x2_z x3_z x4_z x5_z x6_z x7_z hR.1 g0_z g1_z g2_z f1_z f2_z y0_z y1_z, PV_c (by decide +kernel) f2_z (R3_fD (by decide +kernel) f1_z hR.1.1.1.1.1.1) (PV_c (by decide +kernel) f1_z hR.1.1.1.1.1.1 hR.2.1), St_m (by decide +kernel) f2_z (fk_244 y1_z) (ft_244 y1_z) (St_c (by decide +kernel) f1_z hR.2.2)⟩
theorem R8_chance : ax_chance R8 := fun x0_z x1_z x2_z x3_z x4_z x5_z x6_z x7_z x8_z x9_z x10_z hR g0_z g1_z g2_z f1_z f2_z y0_z y1_z => ⟨R7_chance x0_z x1_z x2_z x3_z x4_z x5_z x6_z x7_z x8_z x9_z x10_z hR.1 g0_z g1_z g2_z f1_z f2_z y0_z y1_z, PV_c (by decide +kernel) f2_z (R3_fD (by decide +kernel) f1_z hR.1.1.1.1.1.1) (PV_c (by decide +kernel) f1_z hR.1.1.1.1.1.1 hR.2.1), St_m (by decide +kernel) f2_z (fk_247 y1_z) (rg_v_fr f2_z (by decide +kernel)) (St_c (by decide +kernel) f1_z hR.2.2)⟩
theorem R8_tried : ax_tried R8 := fun x0_z x1_z x2_z x3_z x4_z x5_z x6_z x7_z x8_z x9_z x10_z hR g0_z g1_z g2_z f1_z f2_z y0_z y1_z => ⟨R7_tried x0_z x1_z x2_z x3_z x4_z x5_z x6_z x7_z x8_z x9_z x10_z hR.1 g0_z g1_z g2_z f1_z f2_z y0_z y1_z, PV_c (by decide +kernel) f2_z (R3_fD (by decide +kernel) f1_z hR.1.1.1.1.1.1) (PV_c (by decide +kernel) f1_z hR.1.1.1.1.1.1 hR.2.1), St_m (by decide +kernel) f2_z (fk_248 y1_z) (rg_v_fr f2_z (by decide +kernel)) (St_c (by decide +kernel) f1_z hR.2.2)⟩

theorem R8_undo : ax_undo R8 := by
  intro x0_z x1_z x2_z x3_z x4_z x5_z x6_z x7_z hR g0_z g1_z g2_z f1_z f2_z y0_z y1_z
  refine ⟨R7_undo x0_z x1_z x2_z x3_z x4_z x5_z x6_z x7_z hR.1 g0_z g1_z g2_z f1_z f2_z y0_z y1_z, PV_c (by decide +kernel) f2_z (R3_fD (by decide +kernel) f1_z hR.1.1.1.1.1.1) (PV_c (by decide +kernel) f1_z hR.1.1.1.1.1.1 hR.2.1), St_2 (by decide +kernel) f2_z ?_⟩
  obtain ⟨p, hp_z, D, K, V, B, S, T⟩ := R8_in hR g0_z (by decide +kernel) f1_z
  exact (un_ S y0_z y1_z (i_fr (by decide +kernel) (by decide +kernel) f1_z) (r_fr (by decide +kernel) f2_z) (rg_v_fr f2_z (by decide +kernel))).2

theorem R8_keep : ax_keep R8 := by
  intro x0_z x1_z x2_z x3_z x4_z x5_z x6_z x7_z hR g0_z g1_z g2_z f1_z f2_z y0_z y1_z
  refine ⟨R7_keep x0_z x1_z x2_z x3_z x4_z x5_z x6_z x7_z hR.1 g0_z g1_z g2_z f1_z f2_z y0_z y1_z, PV_c (by decide +kernel) f2_z (R3_fD (by decide +kernel) f1_z hR.1.1.1.1.1.1) (PV_c (by decide +kernel) f1_z hR.1.1.1.1.1.1 hR.2.1), St_2 (by decide +kernel) f2_z ?_⟩
  obtain ⟨p, hp_z, D, K, V, B, S, T⟩ := R8_in hR g0_z (by decide +kernel) f1_z
  exact (kp_pair S (se_139 y0_z) (mf_251 y1_z) (rg_v_fr f2_z (by decide +kernel)) (r_fr (by decide +kernel) f2_z)).2

theorem R8_back : ax_back R8 := by
  intro x0_z x1_z x2_z x3_z x4_z x5_z x6_z x7_z hR g0_z g1_z g2_z f1_z f2_z y0_z y1_z
  refine ⟨R7_back x0_z x1_z x2_z x3_z x4_z x5_z x6_z x7_z hR.1 g0_z g1_z g2_z f1_z f2_z y0_z y1_z, PV_c (by decide +kernel) f2_z (R3_fD (by decide +kernel) f1_z hR.1.1.1.1.1.1) (PV_c (by decide +kernel) f1_z hR.1.1.1.1.1.1 hR.2.1), St_2 (by decide +kernel) f2_z ?_⟩
  obtain ⟨p, hp_z, D, K, V, B, S, T⟩ := R8_in hR g0_z (by decide +kernel) f1_z
  exact (bc_pair S (i_fr (by decide +kernel) (by decide +kernel) f1_z) (r_fr (by decide +kernel) f2_z) (rg_v_fr f2_z (by decide +kernel)) (se_140 y0_z) (mf_252 y1_z)).2
theorem R8_count : ax_count R8 := fun x0_z x1_z x2_z x3_z x4_z x5_z x6_z x7_z x8_z hR g0_z g1_z g2_z f1_z f2_z y0_z y1_z => ⟨R7_count x0_z x1_z x2_z x3_z x4_z x5_z x6_z x7_z x8_z hR.1 g0_z g1_z g2_z f1_z f2_z y0_z y1_z, PV_c (by decide +kernel) f2_z (R3_fD (by decide +kernel) f1_z hR.1.1.1.1.1.1) (PV_c (by decide +kernel) f1_z hR.1.1.1.1.1.1 hR.2.1), St_c (by decide +kernel) f2_z (St_c (by decide +kernel) f1_z hR.2.2)⟩
