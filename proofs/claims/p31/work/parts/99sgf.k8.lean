/-! ===== THE STATE ALIKE IN BOTH, ON (wip/r/gen99sg.py) ===== -/
theorem bl_2 {n n' : Nat} {r r' : Option Value} {h h' g g' : am_H} {b m : Int32} (D : h 0 2 = .ref 2) (S : St 1 h g) (K : rK 2 h g) (V : pv 2 h) (B : bt 2 h) (T : ∀ b, b < 4 → (rg_v h (2 + 17 + b) 3).toInt ≤ 20) (hc_z : rn n am_m69 0 (lv_args 0 [.ref 0, .int b, .int m]) [] h r h') (hm_z : rn n' am_m196 0 (lv_args 0 [.ref 164, .int b, .int m]) [] g r' g') (cf_z : ∀ o k, (56 ≤ o ∧ o ≤ 59) ∨ (o = 0 ∧ k = 8) → rg_v h' o k = rg_v h o k) (mf : ∀ q, rg_v g' 201 q = rg_v g 201 q) (m79_z : rg_v g' 164 79 = rg_v g 164 79) : St 1 h' g' := by
  obtain ⟨-, ⟨k2_z, k20_z, k24_z⟩, -, -, -, ⟨C0, C1, C2, C3⟩, -, -, -⟩ := K
  have v2_z := V.2.1
  have SS := S
  obtain ⟨⟨sv, o1_z, o3_z, o5_z⟩, ⟨⟨n0_z, n1_z⟩, ⟨z0_z, z1_z⟩, e77_z, -⟩, -⟩ := S
  have u0_z : 0 ≤ (rg_v g 164 77).toInt := by rw [← e77_z]; exact z0_z
  have u20_z : (rg_v g 164 77).toInt ≤ 20 := by rw [← e77_z]; exact z1_z
  have g4_z : (rg_v g 164 12).toInt ≤ 4 := by rw [← k2_z]; exact k24_z
  have q1_z : rg_v g 189 0 = rg_v h 48 1 := (sv 1 (by decide) (by decide)).symm
  have q2_z : rg_v g 190 0 = rg_v h 48 2 := (sv 2 (by decide) (by decide)).symm
  by_cases hb_z : 0 ≤ b.toInt ∧ b.toInt < (rg_v h 2 2).toInt
  · have cb := rt_cl hb_z.1
    have b4_z : b.toNatClampNeg < 4 := by omega
    have KB : ∀ k, k < 8 → rg_v h (19 + b.toNatClampNeg) k = rK_bm g b.toNatClampNeg k := by
      intro k hk_z
      have h4_z : b.toNatClampNeg = 0 ∨ b.toNatClampNeg = 1 ∨ b.toNatClampNeg = 2 ∨ b.toNatClampNeg = 3 := by omega
      rcases h4_z with e | e | e | e
      · rw [e]; exact C0 (by omega) k hk_z
      · rw [e]; exact C1 (by omega) k hk_z
      · rw [e]; exact C2 (by omega) k hk_z
      · rw [e]; exact C3 (by omega) k hk_z
    have kb : ∀ f, f < 7 → rg_v g 170 (7 * b.toNatClampNeg + f) = rg_v h (19 + b.toNatClampNeg) (f + 1) := by
      intro f f7_z
      have q := KB (f + 1) (by omega)
      unfold rK_bm at q
      rw [if_neg (by omega), Nat.add_sub_cancel] at q
      exact q.symm
    have bb : ∀ f, 1 ≤ f → f < 8 → 0 ≤ (rg_v h (19 + b.toNatClampNeg) f).toInt ∧ (rg_v h (19 + b.toNatClampNeg) f).toInt ≤ 99 := fun f f1_z f8_z => B b.toNatClampNeg f b4_z f1_z f8_z
    have vt : 1 ≤ (rg_v h (19 + b.toNatClampNeg) 3).toInt := (v2_z b.toNatClampNeg (by omega)).2.1
    have v20_z : (rg_v h (19 + b.toNatClampNeg) 3).toInt ≤ 20 := T b.toNatClampNeg b4_z
    have z4_z : 4 * 0 + b.toNatClampNeg = b.toNatClampNeg := by omega
    have m5_z : rg_v g 191 b.toNatClampNeg = rg_v h 49 b.toNatClampNeg := by
      have q := sv (5 + b.toNatClampNeg) (by omega) (by omega)
      rw [cS_s b4_z, mS_s b4_z, z4_z] at q
      exact q.symm
    have m9_z : rg_v g 192 b.toNatClampNeg = rg_v h 50 b.toNatClampNeg := by
      have q := sv (9 + b.toNatClampNeg) (by omega) (by omega)
      rw [cS_a b4_z, mS_a b4_z, z4_z] at q
      exact q.symm
    have m13_z : rg_v g 193 b.toNatClampNeg = rg_v h 51 b.toNatClampNeg := by
      have q := sv (13 + b.toNatClampNeg) (by omega) (by omega)
      rw [cS_n b4_z, mS_n b4_z, z4_z] at q
      exact q.symm
    have c := se_69_2 D k24_z rfl rfl rfl rfl rfl rfl rfl rfl rfl o1_z.1 o1_z.2 (fun _ _ => ⟨bb 6 (by decide) (by decide), bb 4 (by decide) (by decide)⟩) n0_z n1_z z0_z z1_z hc_z
    have d := mf_196 g4_z q1_z q2_z m5_z m9_z m13_z (kb 2 (by decide)) (kb 3 (by decide)) (kb 4 (by decide)) (kb 5 (by decide)) o1_z.1 o1_z.2 (fun _ _ => ⟨bb 6 (by decide) (by decide), bb 4 (by decide) (by decide)⟩) u0_z u20_z hm_z
    rw [← k2_z] at d
    exact bl_pair SS rfl rfl rfl k24_z (fun _ _ => ⟨bb 5 (by decide) (by decide), ⟨vt, v20_z⟩, bb 6 (by decide) (by decide), bb 4 (by decide) (by decide)⟩) cf_z mf m79_z c d
  · have c := se_69_2 D k24_z rfl rfl rfl rfl rfl rfl rfl rfl rfl o1_z.1 o1_z.2 (fun x y => absurd ⟨x, y⟩ hb_z) n0_z n1_z z0_z z1_z hc_z
    have d := mf_196 g4_z q1_z q2_z rfl rfl rfl rfl rfl rfl rfl o1_z.1 o1_z.2 (fun x y => absurd ⟨x, by rw [k2_z]; exact y⟩ hb_z) u0_z u20_z hm_z
    rw [← k2_z] at d
    have nv : ¬ (0 ≤ b.toInt ∧ b.toInt < (rg_v h 2 2).toInt ∧ 1 ≤ m.toInt ∧ m.toInt ≤ 20) := fun q => hb_z ⟨q.1, q.2.1⟩
    rcases c with ⟨-, -, kp⟩ | ⟨v, -⟩ | ⟨v, -⟩ | ⟨v, -⟩
    · rcases d with ⟨-, -, km⟩ | ⟨v, -⟩ | ⟨v, -⟩ | ⟨v, -⟩
      · exact St_kk (by decide) kp km SS
      · exact absurd v nv
      · exact absurd v nv
      · exact absurd v nv
    · exact absurd v nv
    · exact absurd v nv
    · exact absurd v nv
theorem wt_2 {n n' : Nat} {r r' : Option Value} {h h' g g' : am_H} {m o : Int32} (D : h 0 2 = .ref 2) (S : St 1 h g) (hc_z : rn n am_m83 0 (lv_args 0 [.ref 0, .int m, .int o]) [] h r h') (hm_z : rn n' am_m209 0 (lv_args 0 [.ref 164, .int m, .int o]) [] g r' g') (cf_z : ∀ o k, (56 ≤ o ∧ o ≤ 59) ∨ (o = 0 ∧ k = 8) → rg_v h' o k = rg_v h o k) (mf : ∀ q, rg_v g' 201 q = rg_v g 201 q) (m79_z : rg_v g' 164 79 = rg_v g 164 79) : St 1 h' g' := by
  have SS := S
  obtain ⟨⟨sv, o1_z, o3_z, o5_z⟩, ⟨⟨n0_z, n1_z⟩, ⟨z0_z, z1_z⟩, e77_z, -⟩, -⟩ := S
  have q1_z : rg_v g 189 0 = rg_v h 48 1 := (sv 1 (by decide) (by decide)).symm
  exact wt_pair SS rfl cf_z mf m79_z (se_83_2 D rfl o1_z.1 o1_z.2 n0_z n1_z z0_z z1_z hc_z) (mf_209 q1_z o1_z.1 o1_z.2 (by rw [← e77_z]; exact z0_z) (by rw [← e77_z]; exact z1_z) hm_z)
theorem pm_2 {n n' : Nat} {r r' : Option Value} {h h' g g' : am_H} {m : Int32} (D : h 0 2 = .ref 2) (S : St 1 h g) (K : rK 2 h g) (V : pv 2 h) (hc_z : rn n am_m84 0 (lv_args 0 [.ref 0, .int m]) [] h r h') (hm_z : rn n' am_m210 0 (lv_args 0 [.ref 164, .int m]) [] g r' g') (cf_z : ∀ o k, (56 ≤ o ∧ o ≤ 59) ∨ (o = 0 ∧ k = 8) → rg_v h' o k = rg_v h o k) (mf : ∀ q, rg_v g' 201 q = rg_v g 201 q) (m79_z : rg_v g' 164 79 = rg_v g 164 79) : St 1 h' g' := by
  have SS := S
  obtain ⟨⟨sv, o1_z, o3_z, o5_z⟩, ⟨⟨n0_z, n1_z⟩, ⟨z0_z, z1_z⟩, e77_z, -⟩, -⟩ := S
  have q1_z : rg_v g 189 0 = rg_v h 48 1 := (sv 1 (by decide) (by decide)).symm
  have q3_z : rg_v g 194 0 = rg_v h 48 3 := (sv 3 (by decide) (by decide)).symm
  have y0_z : (0 : Int32).toInt = 0 := by decide
  have xy : ¬ (rg_v h 2 8).toInt = 0 ↔ ¬ (rg_v g 168 2).toInt = 0 := by
    rw [← K.1.2.2.1]
    rcases V.2.2.2.1 with ⟨a, b⟩ | ⟨a, b⟩
    · rw [a, b]
    · omega
  exact pm_pair SS rfl rfl xy cf_z mf m79_z (se_84_2 D rfl o1_z.1 o1_z.2 n0_z n1_z z0_z z1_z rfl o3_z.1 o3_z.2 hc_z) (mf_210 q1_z o1_z.1 o1_z.2 (by rw [← e77_z]; exact z0_z) (by rw [← e77_z]; exact z1_z) q3_z o3_z.1 o3_z.2 hm_z)
theorem pt_2 {n n' : Nat} {r r' : Option Value} {h h' g g' : am_H} {m : Int32} (D : h 0 2 = .ref 2) (S : St 1 h g) (K : rK 2 h g) (L : rg_v h 2 18 = rg_v g 164 58) (hc_z : rn n am_m85 0 (lv_args 0 [.ref 0, .int m]) [] h r h') (hm_z : rn n' am_m211 0 (lv_args 0 [.ref 164, .int m]) [] g r' g') (cf_z : ∀ o k, (56 ≤ o ∧ o ≤ 59) ∨ (o = 0 ∧ k = 8) → rg_v h' o k = rg_v h o k) (mf : ∀ q, rg_v g' 201 q = rg_v g 201 q) (m79_z : rg_v g' 164 79 = rg_v g 164 79) : r = r' ∧ St 1 h' g' := by
  have SS := S
  obtain ⟨-, ⟨⟨n0_z, n1_z⟩, ⟨z0_z, z1_z⟩, e77_z, -⟩, -⟩ := S
  exact pt_pair SS K.2.2.2.1.1 L cf_z mf m79_z (se_85_2 D n0_z n1_z z0_z z1_z hc_z) (mf_211 (by rw [← e77_z]; exact z0_z) (by rw [← e77_z]; exact z1_z) hm_z)
theorem bl_23 {n n' : Nat} {r r' : Option Value} {h h' g g' : am_H} {b m : Int32} (D : h 0 2 = .ref 23) (S : St 1 h g) (K : rK 23 h g) (V : pv 23 h) (B : bt 23 h) (T : ∀ b, b < 4 → (rg_v h (23 + 17 + b) 3).toInt ≤ 20) (hc_z : rn n am_m69 0 (lv_args 0 [.ref 0, .int b, .int m]) [] h r h') (hm_z : rn n' am_m196 0 (lv_args 0 [.ref 164, .int b, .int m]) [] g r' g') (cf_z : ∀ o k, (56 ≤ o ∧ o ≤ 59) ∨ (o = 0 ∧ k = 8) → rg_v h' o k = rg_v h o k) (mf : ∀ q, rg_v g' 201 q = rg_v g 201 q) (m79_z : rg_v g' 164 79 = rg_v g 164 79) : St 1 h' g' := by
  obtain ⟨-, ⟨k2_z, k20_z, k24_z⟩, -, -, -, ⟨C0, C1, C2, C3⟩, -, -, -⟩ := K
  have v2_z := V.2.1
  have SS := S
  obtain ⟨⟨sv, o1_z, o3_z, o5_z⟩, ⟨⟨n0_z, n1_z⟩, ⟨z0_z, z1_z⟩, e77_z, -⟩, -⟩ := S
  have u0_z : 0 ≤ (rg_v g 164 77).toInt := by rw [← e77_z]; exact z0_z
  have u20_z : (rg_v g 164 77).toInt ≤ 20 := by rw [← e77_z]; exact z1_z
  have g4_z : (rg_v g 164 12).toInt ≤ 4 := by rw [← k2_z]; exact k24_z
  have q1_z : rg_v g 189 0 = rg_v h 48 1 := (sv 1 (by decide) (by decide)).symm
  have q2_z : rg_v g 190 0 = rg_v h 48 2 := (sv 2 (by decide) (by decide)).symm
  by_cases hb_z : 0 ≤ b.toInt ∧ b.toInt < (rg_v h 23 2).toInt
  · have cb := rt_cl hb_z.1
    have b4_z : b.toNatClampNeg < 4 := by omega
    have KB : ∀ k, k < 8 → rg_v h (40 + b.toNatClampNeg) k = rK_bm g b.toNatClampNeg k := by
      intro k hk_z
      have h4_z : b.toNatClampNeg = 0 ∨ b.toNatClampNeg = 1 ∨ b.toNatClampNeg = 2 ∨ b.toNatClampNeg = 3 := by omega
      rcases h4_z with e | e | e | e
      · rw [e]; exact C0 (by omega) k hk_z
      · rw [e]; exact C1 (by omega) k hk_z
      · rw [e]; exact C2 (by omega) k hk_z
      · rw [e]; exact C3 (by omega) k hk_z
    have kb : ∀ f, f < 7 → rg_v g 170 (7 * b.toNatClampNeg + f) = rg_v h (40 + b.toNatClampNeg) (f + 1) := by
      intro f f7_z
      have q := KB (f + 1) (by omega)
      unfold rK_bm at q
      rw [if_neg (by omega), Nat.add_sub_cancel] at q
      exact q.symm
    have bb : ∀ f, 1 ≤ f → f < 8 → 0 ≤ (rg_v h (40 + b.toNatClampNeg) f).toInt ∧ (rg_v h (40 + b.toNatClampNeg) f).toInt ≤ 99 := fun f f1_z f8_z => B b.toNatClampNeg f b4_z f1_z f8_z
    have vt : 1 ≤ (rg_v h (40 + b.toNatClampNeg) 3).toInt := (v2_z b.toNatClampNeg (by omega)).2.1
    have v20_z : (rg_v h (40 + b.toNatClampNeg) 3).toInt ≤ 20 := T b.toNatClampNeg b4_z
    have z4_z : 4 * 0 + b.toNatClampNeg = b.toNatClampNeg := by omega
    have m5_z : rg_v g 191 b.toNatClampNeg = rg_v h 49 b.toNatClampNeg := by
      have q := sv (5 + b.toNatClampNeg) (by omega) (by omega)
      rw [cS_s b4_z, mS_s b4_z, z4_z] at q
      exact q.symm
    have m9_z : rg_v g 192 b.toNatClampNeg = rg_v h 50 b.toNatClampNeg := by
      have q := sv (9 + b.toNatClampNeg) (by omega) (by omega)
      rw [cS_a b4_z, mS_a b4_z, z4_z] at q
      exact q.symm
    have m13_z : rg_v g 193 b.toNatClampNeg = rg_v h 51 b.toNatClampNeg := by
      have q := sv (13 + b.toNatClampNeg) (by omega) (by omega)
      rw [cS_n b4_z, mS_n b4_z, z4_z] at q
      exact q.symm
    have c := se_69_23 D k24_z rfl rfl rfl rfl rfl rfl rfl rfl rfl o1_z.1 o1_z.2 (fun _ _ => ⟨bb 6 (by decide) (by decide), bb 4 (by decide) (by decide)⟩) n0_z n1_z z0_z z1_z hc_z
    have d := mf_196 g4_z q1_z q2_z m5_z m9_z m13_z (kb 2 (by decide)) (kb 3 (by decide)) (kb 4 (by decide)) (kb 5 (by decide)) o1_z.1 o1_z.2 (fun _ _ => ⟨bb 6 (by decide) (by decide), bb 4 (by decide) (by decide)⟩) u0_z u20_z hm_z
    rw [← k2_z] at d
    exact bl_pair SS rfl rfl rfl k24_z (fun _ _ => ⟨bb 5 (by decide) (by decide), ⟨vt, v20_z⟩, bb 6 (by decide) (by decide), bb 4 (by decide) (by decide)⟩) cf_z mf m79_z c d
  · have c := se_69_23 D k24_z rfl rfl rfl rfl rfl rfl rfl rfl rfl o1_z.1 o1_z.2 (fun x y => absurd ⟨x, y⟩ hb_z) n0_z n1_z z0_z z1_z hc_z
    have d := mf_196 g4_z q1_z q2_z rfl rfl rfl rfl rfl rfl rfl o1_z.1 o1_z.2 (fun x y => absurd ⟨x, by rw [k2_z]; exact y⟩ hb_z) u0_z u20_z hm_z
    rw [← k2_z] at d
    have nv : ¬ (0 ≤ b.toInt ∧ b.toInt < (rg_v h 23 2).toInt ∧ 1 ≤ m.toInt ∧ m.toInt ≤ 20) := fun q => hb_z ⟨q.1, q.2.1⟩
    rcases c with ⟨-, -, kp⟩ | ⟨v, -⟩ | ⟨v, -⟩ | ⟨v, -⟩
    · rcases d with ⟨-, -, km⟩ | ⟨v, -⟩ | ⟨v, -⟩ | ⟨v, -⟩
      · exact St_kk (by decide) kp km SS
      · exact absurd v nv
      · exact absurd v nv
      · exact absurd v nv
    · exact absurd v nv
    · exact absurd v nv
    · exact absurd v nv
theorem wt_23 {n n' : Nat} {r r' : Option Value} {h h' g g' : am_H} {m o : Int32} (D : h 0 2 = .ref 23) (S : St 1 h g) (hc_z : rn n am_m83 0 (lv_args 0 [.ref 0, .int m, .int o]) [] h r h') (hm_z : rn n' am_m209 0 (lv_args 0 [.ref 164, .int m, .int o]) [] g r' g') (cf_z : ∀ o k, (56 ≤ o ∧ o ≤ 59) ∨ (o = 0 ∧ k = 8) → rg_v h' o k = rg_v h o k) (mf : ∀ q, rg_v g' 201 q = rg_v g 201 q) (m79_z : rg_v g' 164 79 = rg_v g 164 79) : St 1 h' g' := by
  have SS := S
  obtain ⟨⟨sv, o1_z, o3_z, o5_z⟩, ⟨⟨n0_z, n1_z⟩, ⟨z0_z, z1_z⟩, e77_z, -⟩, -⟩ := S
  have q1_z : rg_v g 189 0 = rg_v h 48 1 := (sv 1 (by decide) (by decide)).symm
  exact wt_pair SS rfl cf_z mf m79_z (se_83_23 D rfl o1_z.1 o1_z.2 n0_z n1_z z0_z z1_z hc_z) (mf_209 q1_z o1_z.1 o1_z.2 (by rw [← e77_z]; exact z0_z) (by rw [← e77_z]; exact z1_z) hm_z)
theorem pm_23 {n n' : Nat} {r r' : Option Value} {h h' g g' : am_H} {m : Int32} (D : h 0 2 = .ref 23) (S : St 1 h g) (K : rK 23 h g) (V : pv 23 h) (hc_z : rn n am_m84 0 (lv_args 0 [.ref 0, .int m]) [] h r h') (hm_z : rn n' am_m210 0 (lv_args 0 [.ref 164, .int m]) [] g r' g') (cf_z : ∀ o k, (56 ≤ o ∧ o ≤ 59) ∨ (o = 0 ∧ k = 8) → rg_v h' o k = rg_v h o k) (mf : ∀ q, rg_v g' 201 q = rg_v g 201 q) (m79_z : rg_v g' 164 79 = rg_v g 164 79) : St 1 h' g' := by
  have SS := S
  obtain ⟨⟨sv, o1_z, o3_z, o5_z⟩, ⟨⟨n0_z, n1_z⟩, ⟨z0_z, z1_z⟩, e77_z, -⟩, -⟩ := S
  have q1_z : rg_v g 189 0 = rg_v h 48 1 := (sv 1 (by decide) (by decide)).symm
  have q3_z : rg_v g 194 0 = rg_v h 48 3 := (sv 3 (by decide) (by decide)).symm
  have y0_z : (0 : Int32).toInt = 0 := by decide
  have xy : ¬ (rg_v h 23 8).toInt = 0 ↔ ¬ (rg_v g 168 2).toInt = 0 := by
    rw [← K.1.2.2.1]
    rcases V.2.2.2.1 with ⟨a, b⟩ | ⟨a, b⟩
    · rw [a, b]
    · omega
  exact pm_pair SS rfl rfl xy cf_z mf m79_z (se_84_23 D rfl o1_z.1 o1_z.2 n0_z n1_z z0_z z1_z rfl o3_z.1 o3_z.2 hc_z) (mf_210 q1_z o1_z.1 o1_z.2 (by rw [← e77_z]; exact z0_z) (by rw [← e77_z]; exact z1_z) q3_z o3_z.1 o3_z.2 hm_z)
theorem pt_23 {n n' : Nat} {r r' : Option Value} {h h' g g' : am_H} {m : Int32} (D : h 0 2 = .ref 23) (S : St 1 h g) (K : rK 23 h g) (L : rg_v h 23 18 = rg_v g 164 58) (hc_z : rn n am_m85 0 (lv_args 0 [.ref 0, .int m]) [] h r h') (hm_z : rn n' am_m211 0 (lv_args 0 [.ref 164, .int m]) [] g r' g') (cf_z : ∀ o k, (56 ≤ o ∧ o ≤ 59) ∨ (o = 0 ∧ k = 8) → rg_v h' o k = rg_v h o k) (mf : ∀ q, rg_v g' 201 q = rg_v g 201 q) (m79_z : rg_v g' 164 79 = rg_v g 164 79) : r = r' ∧ St 1 h' g' := by
  have SS := S
  obtain ⟨-, ⟨⟨n0_z, n1_z⟩, ⟨z0_z, z1_z⟩, e77_z, -⟩, -⟩ := S
  exact pt_pair SS K.2.2.2.1.1 L cf_z mf m79_z (se_85_23 D n0_z n1_z z0_z z1_z hc_z) (mf_211 (by rw [← e77_z]; exact z0_z) (by rw [← e77_z]; exact z1_z) hm_z)
theorem un_ {n n' : Nat} {r r' : Option Value} {h h' g g' : am_H} (S : St 1 h g) (hc_z : rn n am_m137 0 (lv_args 0 [.ref 0]) [] h r h') (hm_z : rn n' am_m249 0 (lv_args 0 [.ref 164]) [] g r' g') (cf_z : ∀ o k, (56 ≤ o ∧ o ≤ 59) ∨ (o = 0 ∧ k = 8) → rg_v h' o k = rg_v h o k) (mf : ∀ q, rg_v g' 201 q = rg_v g 201 q) (m79_z : rg_v g' 164 79 = rg_v g 164 79) : r = r' ∧ St 1 h' g' := by
  have SS := S
  obtain ⟨-, ⟨⟨n0_z, n1_z⟩, ⟨z0_z, z1_z⟩, e77_z, -⟩, -⟩ := S
  exact un_pair SS cf_z mf m79_z (se_137 n0_z n1_z z0_z z1_z hc_z) (mf_249 (by rw [← e77_z]; exact z0_z) (by rw [← e77_z]; exact z1_z) hm_z)
