set_option maxHeartbeats 400000
/-! ===== THE CALLS THAT MOVE THE STATE, WITH FULL (wip/r/gen99sr.py) ===== -/
/-- no part of a trial stands in the model -/
def NB (g : am_H) : Prop := rg_v g 164 60 = 0 ∧ rg_v g 164 61 = 0 ∧ rg_v g 164 62 = -1
/-- the leak that is there is one of those told -/
def LB (g : am_H) : Prop := rg_v g 164 58 = -1 ∨ (0 ≤ (rg_v g 164 58).toInt ∧ (rg_v g 164 58).toInt < (rg_v g 164 14).toInt)
/-- how full it is, in its range wherever it is held -/
def FB (h : am_H) : Prop := (0 ≤ (rg_v h 48 0).toInt ∧ (rg_v h 48 0).toInt ≤ 9999) ∧ (0 ≤ (rg_v h 56 0).toInt ∧ (rg_v h 56 0).toInt ≤ 9999) ∧ ∀ i : Nat, i < 20 → 0 ≤ (rg_v h (62 + 4 * i) 0).toInt ∧ (rg_v h (62 + 4 * i) 0).toInt ≤ 9999
theorem FB_e {h h' : am_H} (c : ∀ o, (o = 48 ∨ o = 56 ∨ (62 ≤ o ∧ o ≤ 141)) → rg_v h' o 0 = rg_v h o 0) (F : FB h) : FB h' := by
  unfold FB
  rw [c 48 (Or.inl rfl), c 56 (Or.inr (Or.inl rfl))]
  refine ⟨F.1, F.2.1, fun i hi_z => ?_⟩
  rw [c (62 + 4 * i) (Or.inr (Or.inr (by omega)))]
  exact F.2.2 i hi_z
theorem FB_kk {h h' : am_H} (kp : ∀ o k, ¬ (148 ≤ o ∧ o ≤ 152) → h' o k = h o k) (F : FB h) : FB h' := FB_e (fun o e => lw_v (kp o 0 (by omega))) F
theorem FB_push {h h' : am_H} (F : FB h) (n0_z : 0 ≤ (rg_v h 60 1).toInt) (cp_z : hp_z h h h') (cfr : ∀ o k, 62 ≤ o → o ≤ 141 → ¬ (62 + 4 * (rg_v h 60 1).toNatClampNeg ≤ o ∧ o ≤ 62 + 4 * (rg_v h 60 1).toNatClampNeg + 3) → h' o k = h o k) (cf_z : ∀ o k, (56 ≤ o ∧ o ≤ 59) ∨ (o = 0 ∧ k = 8) → rg_v h' o k = rg_v h o k) (b0_z : 0 ≤ (rg_v h' 48 0).toInt) (b9_z : (rg_v h' 48 0).toInt ≤ 9999) : FB h' := by
  refine ⟨⟨b0_z, b9_z⟩, ?_, fun i hi_z => ?_⟩
  · rw [cf_z 56 0 (Or.inl ⟨by decide, by decide⟩)]
    exact F.2.1
  · by_cases e : i = (rg_v h 60 1).toNatClampNeg
    · have q : rg_v h' (62 + 4 * (rg_v h 60 1).toNatClampNeg) 0 = rg_v h 48 0 := cp_z.1 0 (by decide)
      rw [e, q]
      exact F.1
    · rw [lw_v (cfr (62 + 4 * i) 0 (by omega) (by omega) (by omega))]
      exact F.2.2 i hi_z
theorem lkF_r {w : Nat → Int32} : ∀ (k : Nat) (i x : Int32), 0 ≤ i.toInt → i.toInt + k ≤ 99 → lkF w k i x = -1 ∨ (i.toInt ≤ (lkF w k i x).toInt ∧ (lkF w k i x).toInt < i.toInt + k)
  | 0, _, _, _, _ => Or.inl rfl
  | k + 1, i, x, i0_z, ik => by
    have c := rt_c1 (x := i) i0_z (by omega)
    by_cases q : (x - w i.toNatClampNeg).toInt < 0
    · rw [lkF_1 q]
      exact Or.inr ⟨Int.le_refl _, by omega⟩
    · rw [lkF_2 q]
      rcases lkF_r k (i + 1) (x - w i.toNatClampNeg) (by omega) (by omega) with e | e
      · exact Or.inl e
      · exact Or.inr ⟨by omega, by omega⟩
theorem lkR_r {w : Nat → Int32} {n : Nat} {s : Int32} (hn_z : n ≤ 99) : lkR w n s = -1 ∨ (0 ≤ (lkR w n s).toInt ∧ (lkR w n s).toInt < n) := by
  unfold lkR
  split
  · exact Or.inl rfl
  · have z : (0 : Int32).toInt = 0 := by decide
    rcases lkF_r (w := w) n 0 (lkN s (lkS w n)) (by decide) (by omega) with e | e
    · exact Or.inl e
    · exact Or.inr ⟨by omega, by omega⟩
theorem leM_z {re ls pt : Int32} {lo lo2_z : Nat → Int32} (hl_z : re = -1 ∨ (0 ≤ re.toInt ∧ re.toInt < ls.toInt)) (e : ∀ t : Nat, (t : Int) < ls.toInt → lo t = lo2_z t) : leM (-1) re 0 ls pt lo2_z = leZ re pt lo := by
  unfold leM leZ
  rw [if_neg (c := 0 ≤ (-1 : Int32).toInt) (by decide)]
  rcases hl_z with hl_z | ⟨h0_z, h1_z⟩
  · rw [hl_z, if_pos (Or.inr (Or.inl (by decide))), if_pos (by decide)]
  · have b := mf_bit (x := pt >>> (re &&& 31))
    rw [if_neg (c := re.toInt < 0) (by omega)]
    by_cases q : ((pt >>> (re &&& 31)) &&& 1).toInt = 0
    · have c := rt_cl h0_z
      rw [if_neg (c := ¬ ((pt >>> (re &&& 31)) &&& 1).toInt = 0) (fun z => z q), if_neg (by
        rintro (z | z | z | z)
        · exact z rfl
        · omega
        · omega
        · omega)]
      exact (e _ (by omega)).symm
    · rw [if_pos q, if_pos (Or.inr (Or.inr (Or.inr (by omega))))]
theorem ke_k {t : Int32} {h : am_H} {o f : Nat} {l u : Int} {kd : am_k} (hG : ag_G t h) (hk_z : am_ks0[o]? = some kd) (hf_z : f < ab_sz kd) (ht : ab_hi ab_tab o f = ab_i l u) : l ≤ (rg_v h o f).toInt ∧ (rg_v h o f).toInt ≤ u := by
  have z := hG.1 o f _ hk_z hf_z
  rw [ht] at z
  obtain ⟨x, e, x0_z, x1_z⟩ := z
  unfold rg_v
  rw [e]
  exact ⟨x0_z, x1_z⟩
/-- the numbers of the kept plan that seconds use -/
theorem tb_2 {t : Int32} {h : am_H} (hG : ag_G t h) : (0 ≤ (rg_v h 2 0).toInt ∧ (rg_v h 2 0).toInt ≤ 9999) ∧ (0 ≤ (rg_v h 2 7).toInt ∧ (rg_v h 2 7).toInt ≤ 9999) ∧ (0 ≤ (leZ (rg_v h 2 18) (rg_v h 48 4) (fun q => rg_v h 7 q)).toInt ∧ (leZ (rg_v h 2 18) (rg_v h 48 4) (fun q => rg_v h 7 q)).toInt ≤ 999) := by
  have a := ke_k (o := 2) (f := 0) (l := 1) (u := 9999) hG (kd := .inl 1) (by decide +kernel) (by decide) (by decide +kernel)
  have b := ke_k (o := 2) (f := 7) (l := 0) (u := 99) hG (kd := .inl 1) (by decide +kernel) (by decide) (by decide +kernel)
  have c := ke_k (o := 2) (f := 18) (l := -1) (u := 5) hG (kd := .inl 1) (by decide +kernel) (by decide) (by decide +kernel)
  refine ⟨⟨by omega, a.2⟩, ⟨b.1, by omega⟩, ?_⟩
  unfold leZ
  split
  · exact ⟨by decide, by decide⟩
  · split
    · exact ⟨by decide, by decide⟩
    · rename_i h0_z _
      have cl := rt_cl (x := rg_v h 2 18) (by omega)
      have d := ke_k (o := 7) (f := (rg_v h 2 18).toNatClampNeg) (l := 0) (u := 99) hG (kd := .inr (.int, 6)) (by decide +kernel) (show (rg_v h 2 18).toNatClampNeg < 6 by omega) rfl
      exact ⟨d.1, by omega⟩
theorem mC_of_2 {h g : am_H} (S : St 0 h g) (K : rK 2 h g) (L : LW 2 h g) (N : NB g) (B : LB g) (Lk : rg_v h 2 18 = rg_v g 164 58) : mC 2 h (rg_v h 2 0) (rg_v h 2 7) 0 (-1) (rg_v h 2 18) 0 (rg_v h 2 9) (rg_v h 48 4) (leZ (rg_v h 2 18) (rg_v h 48 4) (fun q => rg_v h 7 q)) g := by
  have e9_z := K.2.2.2.1.1
  exact ⟨L, K.1.1.symm, K.1.2.2.1.symm, N.2.1, N.2.2, Lk.symm, N.1, e9_z.symm, (S.1.1 4 (by decide) (by decide)).symm, leM_z (by rw [Lk, e9_z]; exact B) (fun t ht => (K.2.2.2.2.2.2.2.1 t ht).2)⟩
theorem w9_2_0 {n n' : Nat} {r r' : Option Value} {h h' g g' : am_H} {m : Int32} (D : h 0 2 = .ref 2) (S : St 0 h g) (S1 : St 1 h' g') (K : rK 2 h g) (L : LW 2 h g) (N : NB g) (B : LB g) (Lk : rg_v h 2 18 = rg_v g 164 58) (F : FB h) (T : (0 ≤ (rg_v h 2 0).toInt ∧ (rg_v h 2 0).toInt ≤ 9999) ∧ (0 ≤ (rg_v h 2 7).toInt ∧ (rg_v h 2 7).toInt ≤ 9999) ∧ (0 ≤ (leZ (rg_v h 2 18) (rg_v h 48 4) (fun q => rg_v h 7 q)).toInt ∧ (leZ (rg_v h 2 18) (rg_v h 48 4) (fun q => rg_v h 7 q)).toInt ≤ 999)) (hc_z : rn n am_m83 0 (lv_args 0 [.ref 0, .int m, .int 0]) [] h r h') (hm_z : rn n' am_m209 0 (lv_args 0 [.ref 164, .int m, .int 0]) [] g r' g') (cf_z : ∀ o k, (56 ≤ o ∧ o ≤ 59) ∨ (o = 0 ∧ k = 8) → rg_v h' o k = rg_v h o k) (mf : ∀ q, rg_v g' 201 q = rg_v g 201 q) (m79_z : rg_v g' 164 79 = rg_v g 164 79) : r = r' ∧ St 0 h' g' ∧ FB h' := by
  have SS := S
  have F0 := F.1.1
  have F9 := F.1.2
  have C := mC_of_2 S K L N B Lk
  obtain ⟨⟨h0_z, h9_z⟩, ⟨p0_z, p9_z⟩, ⟨l0_z, l9_z⟩⟩ := T
  obtain ⟨⟨sv, o1_z, o3_z, o5_z⟩, ⟨⟨n0_z, n1_z⟩, ⟨z0_z, z1_z⟩, e77_z, -⟩, -⟩ := S
  have q0_z : rg_v g 188 0 = rg_v h 48 0 := (sv 0 (by decide) (by decide)).symm
  have q1_z : rg_v g 189 0 = rg_v h 48 1 := (sv 1 (by decide) (by decide)).symm
  have u0_z : 0 ≤ (rg_v g 164 77).toInt := by rw [← e77_z]; exact z0_z
  have u20_z : (rg_v g 164 77).toInt ≤ 20 := by rw [← e77_z]; exact z1_z
  have c := se_83_2 D rfl o1_z.1 o1_z.2 n0_z n1_z z0_z z1_z hc_z
  have d := mf_209 q1_z o1_z.1 o1_z.2 u0_z u20_z hm_z
  rcases c with ⟨v, cr, kp⟩ | ⟨v, -, cp_z, cw, cfr⟩
  · rcases d with ⟨-, dr, km⟩ | ⟨v2_z, -⟩
    · exact ⟨by rw [cr, dr], St_kk (by decide) kp km SS, FB_kk kp F⟩
    · exact absurd v2_z v
  · rcases d with ⟨v2_z, -⟩ | ⟨-, -, dp, dw⟩
    · exact absurd v v2_z
    · obtain ⟨G, a1_z, a2_z, a3_z⟩ := sf_83_2_0 D L rfl o1_z.1 F0 F9 h0_z h9_z p0_z p9_z l0_z l9_z n0_z n1_z z0_z z1_z v.1 v.2.1 v.2.2 hc_z
      obtain ⟨G2, b1_z, b2_z, b3_z⟩ := sf_209_0 h0_z h9_z p0_z p9_z l0_z l9_z C q0_z q1_z F0 F9 o1_z.1 u0_z u20_z v.1 v.2.1 v.2.2 hm_z
      have e := gR_u _ _ _ _ _ a1_z b1_z
      subst e
      have gr := gR_r h0_z h9_z p0_z l0_z (by decide) _ _ _ _ F0 F9 a1_z
      exact ⟨by rw [a3_z, b3_z], St_push SS S1 cp_z cfr dp cf_z mf m79_z (a2_z.trans b2_z.symm), FB_push F n0_z cp_z cfr cf_z (by rw [a2_z]; exact gr.1) (by rw [a2_z]; exact gr.2)⟩
theorem w9_2_1 {n n' : Nat} {r r' : Option Value} {h h' g g' : am_H} {m : Int32} (D : h 0 2 = .ref 2) (S : St 0 h g) (S1 : St 1 h' g') (K : rK 2 h g) (L : LW 2 h g) (N : NB g) (B : LB g) (Lk : rg_v h 2 18 = rg_v g 164 58) (F : FB h) (T : (0 ≤ (rg_v h 2 0).toInt ∧ (rg_v h 2 0).toInt ≤ 9999) ∧ (0 ≤ (rg_v h 2 7).toInt ∧ (rg_v h 2 7).toInt ≤ 9999) ∧ (0 ≤ (leZ (rg_v h 2 18) (rg_v h 48 4) (fun q => rg_v h 7 q)).toInt ∧ (leZ (rg_v h 2 18) (rg_v h 48 4) (fun q => rg_v h 7 q)).toInt ≤ 999)) (hc_z : rn n am_m83 0 (lv_args 0 [.ref 0, .int m, .int 1]) [] h r h') (hm_z : rn n' am_m209 0 (lv_args 0 [.ref 164, .int m, .int 1]) [] g r' g') (cf_z : ∀ o k, (56 ≤ o ∧ o ≤ 59) ∨ (o = 0 ∧ k = 8) → rg_v h' o k = rg_v h o k) (mf : ∀ q, rg_v g' 201 q = rg_v g 201 q) (m79_z : rg_v g' 164 79 = rg_v g 164 79) : r = r' ∧ St 0 h' g' ∧ FB h' := by
  have SS := S
  have F0 := F.1.1
  have F9 := F.1.2
  have C := mC_of_2 S K L N B Lk
  obtain ⟨⟨h0_z, h9_z⟩, ⟨p0_z, p9_z⟩, ⟨l0_z, l9_z⟩⟩ := T
  obtain ⟨⟨sv, o1_z, o3_z, o5_z⟩, ⟨⟨n0_z, n1_z⟩, ⟨z0_z, z1_z⟩, e77_z, -⟩, -⟩ := S
  have q0_z : rg_v g 188 0 = rg_v h 48 0 := (sv 0 (by decide) (by decide)).symm
  have q1_z : rg_v g 189 0 = rg_v h 48 1 := (sv 1 (by decide) (by decide)).symm
  have u0_z : 0 ≤ (rg_v g 164 77).toInt := by rw [← e77_z]; exact z0_z
  have u20_z : (rg_v g 164 77).toInt ≤ 20 := by rw [← e77_z]; exact z1_z
  have c := se_83_2 D rfl o1_z.1 o1_z.2 n0_z n1_z z0_z z1_z hc_z
  have d := mf_209 q1_z o1_z.1 o1_z.2 u0_z u20_z hm_z
  rcases c with ⟨v, cr, kp⟩ | ⟨v, -, cp_z, cw, cfr⟩
  · rcases d with ⟨-, dr, km⟩ | ⟨v2_z, -⟩
    · exact ⟨by rw [cr, dr], St_kk (by decide) kp km SS, FB_kk kp F⟩
    · exact absurd v2_z v
  · rcases d with ⟨v2_z, -⟩ | ⟨-, -, dp, dw⟩
    · exact absurd v v2_z
    · obtain ⟨G, a1_z, a2_z, a3_z⟩ := sf_83_2_1 D L rfl o1_z.1 F0 F9 h0_z h9_z p0_z p9_z l0_z l9_z n0_z n1_z z0_z z1_z v.1 v.2.1 v.2.2 hc_z
      obtain ⟨G2, b1_z, b2_z, b3_z⟩ := sf_209_1 h0_z h9_z p0_z p9_z l0_z l9_z C q0_z q1_z F0 F9 o1_z.1 u0_z u20_z v.1 v.2.1 v.2.2 hm_z
      have e := gR_u _ _ _ _ _ a1_z b1_z
      subst e
      have gr := gR_r h0_z h9_z p0_z l0_z (by decide) _ _ _ _ F0 F9 a1_z
      exact ⟨by rw [a3_z, b3_z], St_push SS S1 cp_z cfr dp cf_z mf m79_z (a2_z.trans b2_z.symm), FB_push F n0_z cp_z cfr cf_z (by rw [a2_z]; exact gr.1) (by rw [a2_z]; exact gr.2)⟩
theorem p9_2 {n n' : Nat} {r r' : Option Value} {h h' g g' : am_H} {m : Int32} (D : h 0 2 = .ref 2) (S : St 0 h g) (S1 : St 1 h' g') (K : rK 2 h g) (L : LW 2 h g) (N : NB g) (B : LB g) (Lk : rg_v h 2 18 = rg_v g 164 58) (F : FB h) (T : (0 ≤ (rg_v h 2 0).toInt ∧ (rg_v h 2 0).toInt ≤ 9999) ∧ (0 ≤ (rg_v h 2 7).toInt ∧ (rg_v h 2 7).toInt ≤ 9999) ∧ (0 ≤ (leZ (rg_v h 2 18) (rg_v h 48 4) (fun q => rg_v h 7 q)).toInt ∧ (leZ (rg_v h 2 18) (rg_v h 48 4) (fun q => rg_v h 7 q)).toInt ≤ 999)) (V : pv 2 h) (hc_z : rn n am_m84 0 (lv_args 0 [.ref 0, .int m]) [] h r h') (hm_z : rn n' am_m210 0 (lv_args 0 [.ref 164, .int m]) [] g r' g') (cf_z : ∀ o k, (56 ≤ o ∧ o ≤ 59) ∨ (o = 0 ∧ k = 8) → rg_v h' o k = rg_v h o k) (mf : ∀ q, rg_v g' 201 q = rg_v g 201 q) (m79_z : rg_v g' 164 79 = rg_v g 164 79) : r = r' ∧ St 0 h' g' ∧ FB h' := by
  have SS := S
  have F0 := F.1.1
  have F9 := F.1.2
  have C := mC_of_2 S K L N B Lk
  obtain ⟨⟨h0_z, h9_z⟩, ⟨p0_z, p9_z⟩, ⟨l0_z, l9_z⟩⟩ := T
  obtain ⟨⟨sv, o1_z, o3_z, o5_z⟩, ⟨⟨n0_z, n1_z⟩, ⟨z0_z, z1_z⟩, e77_z, -⟩, -⟩ := S
  have q0_z : rg_v g 188 0 = rg_v h 48 0 := (sv 0 (by decide) (by decide)).symm
  have q1_z : rg_v g 189 0 = rg_v h 48 1 := (sv 1 (by decide) (by decide)).symm
  have u0_z : 0 ≤ (rg_v g 164 77).toInt := by rw [← e77_z]; exact z0_z
  have u20_z : (rg_v g 164 77).toInt ≤ 20 := by rw [← e77_z]; exact z1_z
  have q3_z : rg_v g 194 0 = rg_v h 48 3 := (sv 3 (by decide) (by decide)).symm
  have y0_z : (0 : Int32).toInt = 0 := by decide
  have xy : ¬ (rg_v h 2 8).toInt = 0 ↔ ¬ (rg_v g 168 2).toInt = 0 := by
    rw [← K.1.2.2.1]
    rcases V.2.2.2.1 with ⟨a, b⟩ | ⟨a, b⟩
    · rw [a, b]
    · omega
  have c := se_84_2 D rfl o1_z.1 o1_z.2 n0_z n1_z z0_z z1_z rfl o3_z.1 o3_z.2 hc_z
  have d := mf_210 q1_z o1_z.1 o1_z.2 u0_z u20_z q3_z o3_z.1 o3_z.2 hm_z
  rcases c with ⟨v, cr, kp⟩ | ⟨v, w, cr, kp⟩ | ⟨⟨v, w⟩, x, cr, kp⟩ | ⟨v, w, x, -, cp_z, cw, cfr⟩
  · rcases d with ⟨-, dr, km⟩ | ⟨v2_z, -⟩ | ⟨⟨v2_z, -⟩, -⟩ | ⟨v2_z, -⟩
    · exact ⟨by rw [cr, dr], St_kk (by decide) kp km SS, FB_kk kp F⟩
    · exact absurd ⟨xy.mpr v2_z.1, v2_z.2⟩ v
    · exact absurd ⟨xy.mpr v2_z.1, v2_z.2⟩ v
    · exact absurd ⟨xy.mpr v2_z.1, v2_z.2⟩ v
  · rcases d with ⟨v2_z, -⟩ | ⟨-, -, dr, km⟩ | ⟨⟨-, w2_z⟩, -⟩ | ⟨-, w2_z, -⟩
    · exact absurd ⟨xy.mp v.1, v.2⟩ v2_z
    · exact ⟨by rw [cr, dr], St_kk (by decide) kp km SS, FB_kk kp F⟩
    · exact absurd w2_z w
    · exact absurd w2_z w
  · rcases d with ⟨v2_z, -⟩ | ⟨-, w2_z, -⟩ | ⟨-, -, dr, km⟩ | ⟨-, -, x2_z, -⟩
    · exact absurd ⟨xy.mp v.1, v.2⟩ v2_z
    · exact absurd w w2_z
    · exact ⟨by rw [cr, dr], St_kk (by decide) kp km SS, FB_kk kp F⟩
    · exact absurd x2_z x
  · rcases d with ⟨v2_z, -⟩ | ⟨-, w2_z, -⟩ | ⟨-, x2_z, -⟩ | ⟨v2_z, -, -, -, dp, dw⟩
    · exact absurd ⟨xy.mp v.1, v.2⟩ v2_z
    · exact absurd w w2_z
    · exact absurd x x2_z
    · obtain ⟨G, a1_z, a2_z, a3_z⟩ := sf_84_2 D L rfl o1_z.1 F0 F9 h0_z h9_z p0_z p9_z l0_z l9_z n0_z n1_z z0_z z1_z v.1 v.2 w x hc_z
      obtain ⟨G2, b1_z, b2_z, b3_z⟩ := sf_210_0 h0_z h9_z p0_z p9_z l0_z l9_z C q0_z q1_z F0 F9 o1_z.1 u0_z u20_z v2_z.1 v2_z.2 (by rw [q3_z]; exact w) x rfl hm_z
      have e := gR_u _ _ _ _ _ a1_z b1_z
      subst e
      have gr := gR_r h0_z h9_z p0_z l0_z (by decide) _ _ _ _ F0 F9 a1_z
      exact ⟨by rw [a3_z, b3_z], St_push SS S1 cp_z cfr dp cf_z mf m79_z (a2_z.trans b2_z.symm), FB_push F n0_z cp_z cfr cf_z (by rw [a2_z]; exact gr.1) (by rw [a2_z]; exact gr.2)⟩
/-- the numbers of the kept plan that seconds use -/
theorem tb_23 {t : Int32} {h : am_H} (hG : ag_G t h) : (0 ≤ (rg_v h 23 0).toInt ∧ (rg_v h 23 0).toInt ≤ 9999) ∧ (0 ≤ (rg_v h 23 7).toInt ∧ (rg_v h 23 7).toInt ≤ 9999) ∧ (0 ≤ (leZ (rg_v h 23 18) (rg_v h 48 4) (fun q => rg_v h 28 q)).toInt ∧ (leZ (rg_v h 23 18) (rg_v h 48 4) (fun q => rg_v h 28 q)).toInt ≤ 999) := by
  have a := ke_k (o := 23) (f := 0) (l := 1) (u := 9999) hG (kd := .inl 1) (by decide +kernel) (by decide) (by decide +kernel)
  have b := ke_k (o := 23) (f := 7) (l := 0) (u := 99) hG (kd := .inl 1) (by decide +kernel) (by decide) (by decide +kernel)
  have c := ke_k (o := 23) (f := 18) (l := -1) (u := 5) hG (kd := .inl 1) (by decide +kernel) (by decide) (by decide +kernel)
  refine ⟨⟨by omega, a.2⟩, ⟨b.1, by omega⟩, ?_⟩
  unfold leZ
  split
  · exact ⟨by decide, by decide⟩
  · split
    · exact ⟨by decide, by decide⟩
    · rename_i h0_z _
      have cl := rt_cl (x := rg_v h 23 18) (by omega)
      have d := ke_k (o := 28) (f := (rg_v h 23 18).toNatClampNeg) (l := 0) (u := 99) hG (kd := .inr (.int, 6)) (by decide +kernel) (show (rg_v h 23 18).toNatClampNeg < 6 by omega) rfl
      exact ⟨d.1, by omega⟩
theorem mC_of_23 {h g : am_H} (S : St 0 h g) (K : rK 23 h g) (L : LW 23 h g) (N : NB g) (B : LB g) (Lk : rg_v h 23 18 = rg_v g 164 58) : mC 23 h (rg_v h 23 0) (rg_v h 23 7) 0 (-1) (rg_v h 23 18) 0 (rg_v h 23 9) (rg_v h 48 4) (leZ (rg_v h 23 18) (rg_v h 48 4) (fun q => rg_v h 28 q)) g := by
  have e9_z := K.2.2.2.1.1
  exact ⟨L, K.1.1.symm, K.1.2.2.1.symm, N.2.1, N.2.2, Lk.symm, N.1, e9_z.symm, (S.1.1 4 (by decide) (by decide)).symm, leM_z (by rw [Lk, e9_z]; exact B) (fun t ht => (K.2.2.2.2.2.2.2.1 t ht).2)⟩
theorem w9_23_0 {n n' : Nat} {r r' : Option Value} {h h' g g' : am_H} {m : Int32} (D : h 0 2 = .ref 23) (S : St 0 h g) (S1 : St 1 h' g') (K : rK 23 h g) (L : LW 23 h g) (N : NB g) (B : LB g) (Lk : rg_v h 23 18 = rg_v g 164 58) (F : FB h) (T : (0 ≤ (rg_v h 23 0).toInt ∧ (rg_v h 23 0).toInt ≤ 9999) ∧ (0 ≤ (rg_v h 23 7).toInt ∧ (rg_v h 23 7).toInt ≤ 9999) ∧ (0 ≤ (leZ (rg_v h 23 18) (rg_v h 48 4) (fun q => rg_v h 28 q)).toInt ∧ (leZ (rg_v h 23 18) (rg_v h 48 4) (fun q => rg_v h 28 q)).toInt ≤ 999)) (hc_z : rn n am_m83 0 (lv_args 0 [.ref 0, .int m, .int 0]) [] h r h') (hm_z : rn n' am_m209 0 (lv_args 0 [.ref 164, .int m, .int 0]) [] g r' g') (cf_z : ∀ o k, (56 ≤ o ∧ o ≤ 59) ∨ (o = 0 ∧ k = 8) → rg_v h' o k = rg_v h o k) (mf : ∀ q, rg_v g' 201 q = rg_v g 201 q) (m79_z : rg_v g' 164 79 = rg_v g 164 79) : r = r' ∧ St 0 h' g' ∧ FB h' := by
  have SS := S
  have F0 := F.1.1
  have F9 := F.1.2
  have C := mC_of_23 S K L N B Lk
  obtain ⟨⟨h0_z, h9_z⟩, ⟨p0_z, p9_z⟩, ⟨l0_z, l9_z⟩⟩ := T
  obtain ⟨⟨sv, o1_z, o3_z, o5_z⟩, ⟨⟨n0_z, n1_z⟩, ⟨z0_z, z1_z⟩, e77_z, -⟩, -⟩ := S
  have q0_z : rg_v g 188 0 = rg_v h 48 0 := (sv 0 (by decide) (by decide)).symm
  have q1_z : rg_v g 189 0 = rg_v h 48 1 := (sv 1 (by decide) (by decide)).symm
  have u0_z : 0 ≤ (rg_v g 164 77).toInt := by rw [← e77_z]; exact z0_z
  have u20_z : (rg_v g 164 77).toInt ≤ 20 := by rw [← e77_z]; exact z1_z
  have c := se_83_23 D rfl o1_z.1 o1_z.2 n0_z n1_z z0_z z1_z hc_z
  have d := mf_209 q1_z o1_z.1 o1_z.2 u0_z u20_z hm_z
  rcases c with ⟨v, cr, kp⟩ | ⟨v, -, cp_z, cw, cfr⟩
  · rcases d with ⟨-, dr, km⟩ | ⟨v2_z, -⟩
    · exact ⟨by rw [cr, dr], St_kk (by decide) kp km SS, FB_kk kp F⟩
    · exact absurd v2_z v
  · rcases d with ⟨v2_z, -⟩ | ⟨-, -, dp, dw⟩
    · exact absurd v v2_z
    · obtain ⟨G, a1_z, a2_z, a3_z⟩ := sf_83_23_0 D L rfl o1_z.1 F0 F9 h0_z h9_z p0_z p9_z l0_z l9_z n0_z n1_z z0_z z1_z v.1 v.2.1 v.2.2 hc_z
      obtain ⟨G2, b1_z, b2_z, b3_z⟩ := sf_209_0 h0_z h9_z p0_z p9_z l0_z l9_z C q0_z q1_z F0 F9 o1_z.1 u0_z u20_z v.1 v.2.1 v.2.2 hm_z
      have e := gR_u _ _ _ _ _ a1_z b1_z
      subst e
      have gr := gR_r h0_z h9_z p0_z l0_z (by decide) _ _ _ _ F0 F9 a1_z
      exact ⟨by rw [a3_z, b3_z], St_push SS S1 cp_z cfr dp cf_z mf m79_z (a2_z.trans b2_z.symm), FB_push F n0_z cp_z cfr cf_z (by rw [a2_z]; exact gr.1) (by rw [a2_z]; exact gr.2)⟩
theorem w9_23_1 {n n' : Nat} {r r' : Option Value} {h h' g g' : am_H} {m : Int32} (D : h 0 2 = .ref 23) (S : St 0 h g) (S1 : St 1 h' g') (K : rK 23 h g) (L : LW 23 h g) (N : NB g) (B : LB g) (Lk : rg_v h 23 18 = rg_v g 164 58) (F : FB h) (T : (0 ≤ (rg_v h 23 0).toInt ∧ (rg_v h 23 0).toInt ≤ 9999) ∧ (0 ≤ (rg_v h 23 7).toInt ∧ (rg_v h 23 7).toInt ≤ 9999) ∧ (0 ≤ (leZ (rg_v h 23 18) (rg_v h 48 4) (fun q => rg_v h 28 q)).toInt ∧ (leZ (rg_v h 23 18) (rg_v h 48 4) (fun q => rg_v h 28 q)).toInt ≤ 999)) (hc_z : rn n am_m83 0 (lv_args 0 [.ref 0, .int m, .int 1]) [] h r h') (hm_z : rn n' am_m209 0 (lv_args 0 [.ref 164, .int m, .int 1]) [] g r' g') (cf_z : ∀ o k, (56 ≤ o ∧ o ≤ 59) ∨ (o = 0 ∧ k = 8) → rg_v h' o k = rg_v h o k) (mf : ∀ q, rg_v g' 201 q = rg_v g 201 q) (m79_z : rg_v g' 164 79 = rg_v g 164 79) : r = r' ∧ St 0 h' g' ∧ FB h' := by
  have SS := S
  have F0 := F.1.1
  have F9 := F.1.2
  have C := mC_of_23 S K L N B Lk
  obtain ⟨⟨h0_z, h9_z⟩, ⟨p0_z, p9_z⟩, ⟨l0_z, l9_z⟩⟩ := T
  obtain ⟨⟨sv, o1_z, o3_z, o5_z⟩, ⟨⟨n0_z, n1_z⟩, ⟨z0_z, z1_z⟩, e77_z, -⟩, -⟩ := S
  have q0_z : rg_v g 188 0 = rg_v h 48 0 := (sv 0 (by decide) (by decide)).symm
  have q1_z : rg_v g 189 0 = rg_v h 48 1 := (sv 1 (by decide) (by decide)).symm
  have u0_z : 0 ≤ (rg_v g 164 77).toInt := by rw [← e77_z]; exact z0_z
  have u20_z : (rg_v g 164 77).toInt ≤ 20 := by rw [← e77_z]; exact z1_z
  have c := se_83_23 D rfl o1_z.1 o1_z.2 n0_z n1_z z0_z z1_z hc_z
  have d := mf_209 q1_z o1_z.1 o1_z.2 u0_z u20_z hm_z
  rcases c with ⟨v, cr, kp⟩ | ⟨v, -, cp_z, cw, cfr⟩
  · rcases d with ⟨-, dr, km⟩ | ⟨v2_z, -⟩
    · exact ⟨by rw [cr, dr], St_kk (by decide) kp km SS, FB_kk kp F⟩
    · exact absurd v2_z v
  · rcases d with ⟨v2_z, -⟩ | ⟨-, -, dp, dw⟩
    · exact absurd v v2_z
    · obtain ⟨G, a1_z, a2_z, a3_z⟩ := sf_83_23_1 D L rfl o1_z.1 F0 F9 h0_z h9_z p0_z p9_z l0_z l9_z n0_z n1_z z0_z z1_z v.1 v.2.1 v.2.2 hc_z
      obtain ⟨G2, b1_z, b2_z, b3_z⟩ := sf_209_1 h0_z h9_z p0_z p9_z l0_z l9_z C q0_z q1_z F0 F9 o1_z.1 u0_z u20_z v.1 v.2.1 v.2.2 hm_z
      have e := gR_u _ _ _ _ _ a1_z b1_z
      subst e
      have gr := gR_r h0_z h9_z p0_z l0_z (by decide) _ _ _ _ F0 F9 a1_z
      exact ⟨by rw [a3_z, b3_z], St_push SS S1 cp_z cfr dp cf_z mf m79_z (a2_z.trans b2_z.symm), FB_push F n0_z cp_z cfr cf_z (by rw [a2_z]; exact gr.1) (by rw [a2_z]; exact gr.2)⟩
theorem p9_23 {n n' : Nat} {r r' : Option Value} {h h' g g' : am_H} {m : Int32} (D : h 0 2 = .ref 23) (S : St 0 h g) (S1 : St 1 h' g') (K : rK 23 h g) (L : LW 23 h g) (N : NB g) (B : LB g) (Lk : rg_v h 23 18 = rg_v g 164 58) (F : FB h) (T : (0 ≤ (rg_v h 23 0).toInt ∧ (rg_v h 23 0).toInt ≤ 9999) ∧ (0 ≤ (rg_v h 23 7).toInt ∧ (rg_v h 23 7).toInt ≤ 9999) ∧ (0 ≤ (leZ (rg_v h 23 18) (rg_v h 48 4) (fun q => rg_v h 28 q)).toInt ∧ (leZ (rg_v h 23 18) (rg_v h 48 4) (fun q => rg_v h 28 q)).toInt ≤ 999)) (V : pv 23 h) (hc_z : rn n am_m84 0 (lv_args 0 [.ref 0, .int m]) [] h r h') (hm_z : rn n' am_m210 0 (lv_args 0 [.ref 164, .int m]) [] g r' g') (cf_z : ∀ o k, (56 ≤ o ∧ o ≤ 59) ∨ (o = 0 ∧ k = 8) → rg_v h' o k = rg_v h o k) (mf : ∀ q, rg_v g' 201 q = rg_v g 201 q) (m79_z : rg_v g' 164 79 = rg_v g 164 79) : r = r' ∧ St 0 h' g' ∧ FB h' := by
  have SS := S
  have F0 := F.1.1
  have F9 := F.1.2
  have C := mC_of_23 S K L N B Lk
  obtain ⟨⟨h0_z, h9_z⟩, ⟨p0_z, p9_z⟩, ⟨l0_z, l9_z⟩⟩ := T
  obtain ⟨⟨sv, o1_z, o3_z, o5_z⟩, ⟨⟨n0_z, n1_z⟩, ⟨z0_z, z1_z⟩, e77_z, -⟩, -⟩ := S
  have q0_z : rg_v g 188 0 = rg_v h 48 0 := (sv 0 (by decide) (by decide)).symm
  have q1_z : rg_v g 189 0 = rg_v h 48 1 := (sv 1 (by decide) (by decide)).symm
  have u0_z : 0 ≤ (rg_v g 164 77).toInt := by rw [← e77_z]; exact z0_z
  have u20_z : (rg_v g 164 77).toInt ≤ 20 := by rw [← e77_z]; exact z1_z
  have q3_z : rg_v g 194 0 = rg_v h 48 3 := (sv 3 (by decide) (by decide)).symm
  have y0_z : (0 : Int32).toInt = 0 := by decide
  have xy : ¬ (rg_v h 23 8).toInt = 0 ↔ ¬ (rg_v g 168 2).toInt = 0 := by
    rw [← K.1.2.2.1]
    rcases V.2.2.2.1 with ⟨a, b⟩ | ⟨a, b⟩
    · rw [a, b]
    · omega
  have c := se_84_23 D rfl o1_z.1 o1_z.2 n0_z n1_z z0_z z1_z rfl o3_z.1 o3_z.2 hc_z
  have d := mf_210 q1_z o1_z.1 o1_z.2 u0_z u20_z q3_z o3_z.1 o3_z.2 hm_z
  rcases c with ⟨v, cr, kp⟩ | ⟨v, w, cr, kp⟩ | ⟨⟨v, w⟩, x, cr, kp⟩ | ⟨v, w, x, -, cp_z, cw, cfr⟩
  · rcases d with ⟨-, dr, km⟩ | ⟨v2_z, -⟩ | ⟨⟨v2_z, -⟩, -⟩ | ⟨v2_z, -⟩
    · exact ⟨by rw [cr, dr], St_kk (by decide) kp km SS, FB_kk kp F⟩
    · exact absurd ⟨xy.mpr v2_z.1, v2_z.2⟩ v
    · exact absurd ⟨xy.mpr v2_z.1, v2_z.2⟩ v
    · exact absurd ⟨xy.mpr v2_z.1, v2_z.2⟩ v
  · rcases d with ⟨v2_z, -⟩ | ⟨-, -, dr, km⟩ | ⟨⟨-, w2_z⟩, -⟩ | ⟨-, w2_z, -⟩
    · exact absurd ⟨xy.mp v.1, v.2⟩ v2_z
    · exact ⟨by rw [cr, dr], St_kk (by decide) kp km SS, FB_kk kp F⟩
    · exact absurd w2_z w
    · exact absurd w2_z w
  · rcases d with ⟨v2_z, -⟩ | ⟨-, w2_z, -⟩ | ⟨-, -, dr, km⟩ | ⟨-, -, x2_z, -⟩
    · exact absurd ⟨xy.mp v.1, v.2⟩ v2_z
    · exact absurd w w2_z
    · exact ⟨by rw [cr, dr], St_kk (by decide) kp km SS, FB_kk kp F⟩
    · exact absurd x2_z x
  · rcases d with ⟨v2_z, -⟩ | ⟨-, w2_z, -⟩ | ⟨-, x2_z, -⟩ | ⟨v2_z, -, -, -, dp, dw⟩
    · exact absurd ⟨xy.mp v.1, v.2⟩ v2_z
    · exact absurd w w2_z
    · exact absurd x x2_z
    · obtain ⟨G, a1_z, a2_z, a3_z⟩ := sf_84_23 D L rfl o1_z.1 F0 F9 h0_z h9_z p0_z p9_z l0_z l9_z n0_z n1_z z0_z z1_z v.1 v.2 w x hc_z
      obtain ⟨G2, b1_z, b2_z, b3_z⟩ := sf_210_0 h0_z h9_z p0_z p9_z l0_z l9_z C q0_z q1_z F0 F9 o1_z.1 u0_z u20_z v2_z.1 v2_z.2 (by rw [q3_z]; exact w) x rfl hm_z
      have e := gR_u _ _ _ _ _ a1_z b1_z
      subst e
      have gr := gR_r h0_z h9_z p0_z l0_z (by decide) _ _ _ _ F0 F9 a1_z
      exact ⟨by rw [a3_z, b3_z], St_push SS S1 cp_z cfr dp cf_z mf m79_z (a2_z.trans b2_z.symm), FB_push F n0_z cp_z cfr cf_z (by rw [a2_z]; exact gr.1) (by rw [a2_z]; exact gr.2)⟩
theorem bl_eq {h g : am_H} {b m se en rs tk tm hd_z s1_z s2_z N : Int32} (S : St 1 h g) (E1 : rg_v h 48 1 = s1_z) (E5 : rg_v h 49 b.toNatClampNeg = se) (En : rg_v h 51 b.toNatClampNeg = en) (N4 : N.toInt ≤ 4) (HB : 0 ≤ b.toInt → b.toInt < N.toInt → (0 ≤ rs.toInt ∧ rs.toInt ≤ 99) ∧ (1 ≤ tm.toInt ∧ tm.toInt ≤ 20) ∧ (0 ≤ hd_z.toInt ∧ hd_z.toInt ≤ 99) ∧ (0 ≤ tk.toInt ∧ tk.toInt ≤ 99)) (hv_z : (0 ≤ b.toInt ∧ b.toInt < N.toInt ∧ 1 ≤ m.toInt ∧ m.toInt ≤ 20)) : (mD rs tk tm m.toInt.toNat se en (s1_z + hn_z s2_z b hd_z) ↔ (0 < rs.toInt ∧ tm.toInt < (ef se en (s1_z + hn_z s2_z b hd_z) rs + m).toInt)) ∧ (((99999 - s1_z).toInt < (hn_z s2_z b hd_z + m * tk).toInt) ↔ 99999 < (bT tk m.toInt.toNat (s1_z + hn_z s2_z b hd_z)).toInt) ∧ (bT tk m.toInt.toNat (s1_z + hn_z s2_z b hd_z)).toInt = s1_z.toInt + (hn_z s2_z b hd_z).toInt + m.toInt * tk.toInt := by
    obtain ⟨⟨r0_z, r9_z⟩, ⟨t1_z, t20_z⟩, ⟨h0_z, h9_z⟩, ⟨k0_z, k9_z⟩⟩ := HB hv_z.1 hv_z.2.1
    have cb := rt_cl hv_z.1
    have b4_z : b.toNatClampNeg < 4 := by omega
    have SS := S
    obtain ⟨⟨sv, okf⟩, H, I⟩ := S
    obtain ⟨o1_z, o3_z, o5_z⟩ := okf
    have oe := o5_z b.toNatClampNeg b4_z
    rw [cS_s b4_z, cS_n b4_z, E5, En] at oe
    have o1_z' : 0 ≤ s1_z.toInt ∧ s1_z.toInt ≤ 99999 := by rw [← E1]; exact o1_z
    have oe1_z : en.toInt ≤ s1_z.toInt := by rw [← E1]; exact oe.1.2
    have hr := hn_r (l := s2_z) (b := b) h0_z h9_z
    have la := ab_iadd (x := s1_z) (y := hn_z s2_z b hd_z) (by omega) (by omega)
    have em : ((m.toInt.toNat : Nat) : Int) = m.toInt := by omega
    have mt := se_mt (m := m) (t := tk) (by omega) (by omega) k0_z k9_z
    have ef0_z := ef_r (s := se) (e := en) (t := s1_z + hn_z s2_z b hd_z) (r := rs) oe.2.1 oe.2.2
    have fa := ab_iadd (x := ef se en (s1_z + hn_z s2_z b hd_z) rs) (y := m) (by omega) (by omega)
    have ha_z := ab_iadd (x := hn_z s2_z b hd_z) (y := m * tk) (by omega) (by omega)
    have z9_z : (99999 : Int32).toInt = 99999 := by decide
    have sb := ab_isub (x := 99999) (y := s1_z) (by rw [z9_z]; omega) (by rw [z9_z]; omega)
    rw [z9_z] at sb
    have bti := bT_i k0_z m.toInt.toNat (s1_z + hn_z s2_z b hd_z) (by omega) (by rw [em]; omega)
    rw [em] at bti
    obtain ⟨i1_z, i2_z⟩ := mD_iff r0_z t1_z t20_z k0_z k9_z m.toInt.toNat se en (s1_z + hn_z s2_z b hd_z) oe.2.1 oe.2.2 oe.1.1 (by omega) (by omega)
    have di : mD rs tk tm m.toInt.toNat se en (s1_z + hn_z s2_z b hd_z) ↔ (0 < rs.toInt ∧ tm.toInt < (ef se en (s1_z + hn_z s2_z b hd_z) rs + m).toInt) := i1_z.trans ⟨fun q => ⟨q.2.1, by omega⟩, fun q => ⟨by omega, q.1, by omega⟩⟩
    have li : ((99999 - s1_z).toInt < (hn_z s2_z b hd_z + m * tk).toInt) ↔ 99999 < (bT tk m.toInt.toNat (s1_z + hn_z s2_z b hd_z)).toInt := by omega
    exact ⟨di, li, by omega⟩
theorem b9_2 {n n' : Nat} {r r' : Option Value} {h h' g g' : am_H} {b m : Int32} (D : h 0 2 = .ref 2) (S : St 0 h g) (S1 : St 1 h' g') (K : rK 2 h g) (V : pv 2 h) (B : bt 2 h) (T : ∀ b, b < 4 → (rg_v h (2 + 17 + b) 3).toInt ≤ 20) (L : LW 2 h g) (N : NB g) (Bl : LB g) (Lk : rg_v h 2 18 = rg_v g 164 58) (F : FB h) (Tb : (0 ≤ (rg_v h 2 0).toInt ∧ (rg_v h 2 0).toInt ≤ 9999) ∧ (0 ≤ (rg_v h 2 7).toInt ∧ (rg_v h 2 7).toInt ≤ 9999) ∧ (0 ≤ (leZ (rg_v h 2 18) (rg_v h 48 4) (fun q => rg_v h 7 q)).toInt ∧ (leZ (rg_v h 2 18) (rg_v h 48 4) (fun q => rg_v h 7 q)).toInt ≤ 999)) (hc_z : rn n am_m69 0 (lv_args 0 [.ref 0, .int b, .int m]) [] h r h') (hm_z : rn n' am_m196 0 (lv_args 0 [.ref 164, .int b, .int m]) [] g r' g') (cf_z : ∀ o k, (56 ≤ o ∧ o ≤ 59) ∨ (o = 0 ∧ k = 8) → rg_v h' o k = rg_v h o k) (mf : ∀ q, rg_v g' 201 q = rg_v g 201 q) (m79_z : rg_v g' 164 79 = rg_v g 164 79) : r = r' ∧ St 0 h' g' ∧ FB h' := by
  have F0 := F.1.1
  have F9 := F.1.2
  have C := mC_of_2 S K L N Bl Lk
  have KK := K
  obtain ⟨⟨h0_z, h9_z⟩, ⟨p0_z, p9_z⟩, ⟨l0_z, l9_z⟩⟩ := Tb
  obtain ⟨-, ⟨k2_z, k20_z, k24_z⟩, -, -, -, ⟨C0, C1, C2, C3⟩, -, -, -⟩ := K
  have v2_z := V.2.1
  have SS := S
  have St1 : St 1 h g := ⟨⟨fun j a b => S.1.1 j (by omega) b, S.1.2⟩, ⟨S.2.1.1, S.2.1.2.1, S.2.1.2.2.1, fun j hj_z => ⟨fun i a b => (S.2.1.2.2.2 j hj_z).1 i (by omega) b, (S.2.1.2.2.2 j hj_z).2⟩⟩, ⟨S.2.2.1, fun hb_z => ⟨fun i a b => (S.2.2.2 hb_z).1 i (by omega) b, (S.2.2.2 hb_z).2⟩⟩⟩
  obtain ⟨⟨sv0_z, o1_z, o3_z, o5_z⟩, ⟨⟨n0_z, n1_z⟩, ⟨z0_z, z1_z⟩, e77_z, -⟩, -⟩ := S
  have sv : ∀ j, 1 ≤ j → j < 17 → cS_z h 48 j = mS g 0 j := fun j a b => sv0_z j (by omega) b
  have u0_z : 0 ≤ (rg_v g 164 77).toInt := by rw [← e77_z]; exact z0_z
  have u20_z : (rg_v g 164 77).toInt ≤ 20 := by rw [← e77_z]; exact z1_z
  have q0_z : rg_v g 188 0 = rg_v h 48 0 := (sv0_z 0 (by decide) (by decide)).symm
  have g4_z : (rg_v g 164 12).toInt ≤ 4 := by rw [← k2_z]; exact k24_z
  have q1_z : rg_v g 189 0 = rg_v h 48 1 := (sv 1 (by decide) (by decide)).symm
  have q2_z : rg_v g 190 0 = rg_v h 48 2 := (sv 2 (by decide) (by decide)).symm
  by_cases hb_z : 0 ≤ b.toInt ∧ b.toInt < (rg_v h 2 2).toInt
  · have cb := rt_cl hb_z.1
    have b4_z : b.toNatClampNeg < 4 := by omega
    have KB : ∀ k, k < 8 → rg_v h (19 + b.toNatClampNeg) k = rK_bm g b.toNatClampNeg k := by
      intro k hk_z
      have h4_z : b.toNatClampNeg = 0 ∨ b.toNatClampNeg = 1 ∨ b.toNatClampNeg = 2 ∨ b.toNatClampNeg = 3 := by omega
      rcases h4_z with e | e | e | e
      · rw [e]; exact C0 (by omega) k hk_z
      · rw [e]; exact C1 (by omega) k hk_z
      · rw [e]; exact C2 (by omega) k hk_z
      · rw [e]; exact C3 (by omega) k hk_z
    have kb : ∀ f, f < 7 → rg_v g 170 (7 * b.toNatClampNeg + f) = rg_v h (19 + b.toNatClampNeg) (f + 1) := by
      intro f f7_z
      have q := KB (f + 1) (by omega)
      unfold rK_bm at q
      rw [if_neg (by omega), Nat.add_sub_cancel] at q
      exact q.symm
    have bb : ∀ f, 1 ≤ f → f < 8 → 0 ≤ (rg_v h (19 + b.toNatClampNeg) f).toInt ∧ (rg_v h (19 + b.toNatClampNeg) f).toInt ≤ 99 := fun f f1_z f8_z => B b.toNatClampNeg f b4_z f1_z f8_z
    have vt : 1 ≤ (rg_v h (19 + b.toNatClampNeg) 3).toInt := (v2_z b.toNatClampNeg (by omega)).2.1
    have v20_z : (rg_v h (19 + b.toNatClampNeg) 3).toInt ≤ 20 := T b.toNatClampNeg b4_z
    have z4_z : 4 * 0 + b.toNatClampNeg = b.toNatClampNeg := by omega
    have m5_z : rg_v g 191 b.toNatClampNeg = rg_v h 49 b.toNatClampNeg := by
      have q := sv (5 + b.toNatClampNeg) (by omega) (by omega)
      rw [cS_s b4_z, mS_s b4_z, z4_z] at q
      exact q.symm
    have m9_z : rg_v g 192 b.toNatClampNeg = rg_v h 50 b.toNatClampNeg := by
      have q := sv (9 + b.toNatClampNeg) (by omega) (by omega)
      rw [cS_a b4_z, mS_a b4_z, z4_z] at q
      exact q.symm
    have m13_z : rg_v g 193 b.toNatClampNeg = rg_v h 51 b.toNatClampNeg := by
      have q := sv (13 + b.toNatClampNeg) (by omega) (by omega)
      rw [cS_n b4_z, mS_n b4_z, z4_z] at q
      exact q.symm
    have kb0_z : rg_v g 170 (7 * b.toNatClampNeg) = rg_v h (19 + b.toNatClampNeg) 1 := kb 0 (by decide)
    have c := se_69_2 D k24_z rfl rfl rfl rfl rfl rfl rfl rfl rfl o1_z.1 o1_z.2 (fun _ _ => ⟨bb 6 (by decide) (by decide), bb 4 (by decide) (by decide)⟩) n0_z n1_z z0_z z1_z hc_z
    have d := mf_196 g4_z q1_z q2_z m5_z m9_z m13_z (kb 2 (by decide)) (kb 3 (by decide)) (kb 4 (by decide)) (kb 5 (by decide)) o1_z.1 o1_z.2 (fun _ _ => ⟨bb 6 (by decide) (by decide), bb 4 (by decide) (by decide)⟩) u0_z u20_z hm_z
    rw [← k2_z] at d
    rcases c with ⟨v, cr, kp⟩ | ⟨v, w, cr, kp⟩ | ⟨v, w, x, cr, kp⟩ | ⟨v, w, x, -, cp_z, cw, cfr⟩
    · rcases d with ⟨-, dr, km⟩ | ⟨v2_z, -⟩ | ⟨v2_z, -⟩ | ⟨v2_z, -⟩
      · exact ⟨by rw [cr, dr], St_kk (by decide) kp km SS, FB_kk kp F⟩
      · exact absurd v2_z v
      · exact absurd v2_z v
      · exact absurd v2_z v
    · obtain ⟨di, li, -⟩ := bl_eq St1 rfl rfl rfl k24_z (fun _ _ => ⟨bb 5 (by decide) (by decide), ⟨vt, v20_z⟩, bb 6 (by decide) (by decide), bb 4 (by decide) (by decide)⟩) v
      rcases d with ⟨v2_z, -⟩ | ⟨-, w2_z, dr, km⟩ | ⟨-, w2_z, -⟩ | ⟨-, w2_z, -⟩
      · exact absurd v v2_z
      · exact ⟨by rw [cr, dr], St_kk (by decide) kp km SS, FB_kk kp F⟩
      · exact absurd (di.mpr w) w2_z
      · exact absurd (di.mpr w) w2_z
    · obtain ⟨di, li, -⟩ := bl_eq St1 rfl rfl rfl k24_z (fun _ _ => ⟨bb 5 (by decide) (by decide), ⟨vt, v20_z⟩, bb 6 (by decide) (by decide), bb 4 (by decide) (by decide)⟩) v
      rcases d with ⟨v2_z, -⟩ | ⟨-, w2_z, -⟩ | ⟨-, -, -, dr, km⟩ | ⟨-, -, x2_z, -⟩
      · exact absurd v v2_z
      · exact absurd (di.mp w2_z) w
      · exact ⟨by rw [cr, dr], St_kk (by decide) kp km SS, FB_kk kp F⟩
      · exact absurd (li.mp x) x2_z
    · obtain ⟨di, li, bt_⟩ := bl_eq St1 rfl rfl rfl k24_z (fun _ _ => ⟨bb 5 (by decide) (by decide), ⟨vt, v20_z⟩, bb 6 (by decide) (by decide), bb 4 (by decide) (by decide)⟩) v
      rcases d with ⟨v2_z, -⟩ | ⟨-, w2_z, -⟩ | ⟨-, -, x2_z, -⟩ | ⟨-, w2_z, x2_z, -, dp, dw⟩
      · exact absurd v v2_z
      · exact absurd (di.mp w2_z) w
      · exact absurd (li.mpr x2_z) x
      · have oe := o5_z b.toNatClampNeg b4_z
        rw [cS_s b4_z] at oe
        have bs := bb 1 (by decide) (by decide)
        have be := bb 2 (by decide) (by decide)
        have bk_ := bb 4 (by decide) (by decide)
        have bh := bb 6 (by decide) (by decide)
        obtain ⟨F1, G, a1_z, a2_z, a3_z, a4_z⟩ := sf_69_2 (s1_z := rg_v h 48 1) L ⟨D, fun _ _ _ _ => rfl, rfl, rfl, rfl, rfl, rfl, fun _ => rfl⟩ k24_z rfl rfl rfl rfl rfl rfl rfl rfl rfl rfl h0_z h9_z p0_z p9_z l0_z l9_z bs.1 bs.2 be.1 be.2 bk_.1 bk_.2 bh.1 bh.2 F0 F9 o1_z.1 o1_z.2 oe.2.1 oe.2.2 n0_z n1_z z0_z z1_z v.1 v.2.1 v.2.2.1 v.2.2.2 w x hc_z
        obtain ⟨F2, G2, b1_z, b2_z, b3_z, b4_⟩ := sf_196 h0_z h9_z p0_z p9_z l0_z l9_z C g4_z q0_z q1_z q2_z m5_z m13_z kb0_z (kb 1 (by decide)) (kb 2 (by decide)) (kb 3 (by decide)) (kb 4 (by decide)) (kb 5 (by decide)) bs.1 bs.2 be.1 be.2 bk_.1 bk_.2 bh.1 bh.2 F0 F9 o1_z.1 o1_z.2 oe.2.1 oe.2.2 u0_z u20_z v.1 (by rw [← k2_z]; exact v.2.1) v.2.2.1 v.2.2.2 w2_z (by omega) hm_z
        have e1_z := gR_u _ _ _ _ _ a1_z b1_z
        subst e1_z
        have e2_z := bR_u _ _ _ _ _ _ _ a2_z b2_z
        subst e2_z
        have g1_z := gR_r h0_z h9_z p0_z l0_z (by decide) _ _ _ _ F0 F9 a1_z
        have g2_z := bR_r h0_z h9_z p0_z l0_z bs.1 bs.2 be.1 be.2 _ _ _ _ _ _ g1_z.1 g1_z.2 oe.2.1 (by omega) a2_z
        exact ⟨by rw [a4_z, b4_], St_push SS S1 cp_z cfr dp cf_z mf m79_z (a3_z.trans b3_z.symm), FB_push F n0_z cp_z cfr cf_z (by rw [a3_z]; exact g2_z.1) (by rw [a3_z]; exact g2_z.2)⟩
  · have c := se_69_2 D k24_z rfl rfl rfl rfl rfl rfl rfl rfl rfl o1_z.1 o1_z.2 (fun x y => absurd ⟨x, y⟩ hb_z) n0_z n1_z z0_z z1_z hc_z
    have d := mf_196 g4_z q1_z q2_z rfl rfl rfl rfl rfl rfl rfl o1_z.1 o1_z.2 (fun x y => absurd ⟨x, by rw [k2_z]; exact y⟩ hb_z) u0_z u20_z hm_z
    rw [← k2_z] at d
    have nv : ¬ (0 ≤ b.toInt ∧ b.toInt < (rg_v h 2 2).toInt ∧ 1 ≤ m.toInt ∧ m.toInt ≤ 20) := fun q => hb_z ⟨q.1, q.2.1⟩
    rcases c with ⟨-, cr, kp⟩ | ⟨v, -⟩ | ⟨v, -⟩ | ⟨v, -⟩
    · rcases d with ⟨-, dr, km⟩ | ⟨v, -⟩ | ⟨v, -⟩ | ⟨v, -⟩
      · exact ⟨by rw [cr, dr], St_kk (by decide) kp km SS, FB_kk kp F⟩
      · exact absurd v nv
      · exact absurd v nv
      · exact absurd v nv
    · exact absurd v nv
    · exact absurd v nv
    · exact absurd v nv
theorem b9_23 {n n' : Nat} {r r' : Option Value} {h h' g g' : am_H} {b m : Int32} (D : h 0 2 = .ref 23) (S : St 0 h g) (S1 : St 1 h' g') (K : rK 23 h g) (V : pv 23 h) (B : bt 23 h) (T : ∀ b, b < 4 → (rg_v h (23 + 17 + b) 3).toInt ≤ 20) (L : LW 23 h g) (N : NB g) (Bl : LB g) (Lk : rg_v h 23 18 = rg_v g 164 58) (F : FB h) (Tb : (0 ≤ (rg_v h 23 0).toInt ∧ (rg_v h 23 0).toInt ≤ 9999) ∧ (0 ≤ (rg_v h 23 7).toInt ∧ (rg_v h 23 7).toInt ≤ 9999) ∧ (0 ≤ (leZ (rg_v h 23 18) (rg_v h 48 4) (fun q => rg_v h 28 q)).toInt ∧ (leZ (rg_v h 23 18) (rg_v h 48 4) (fun q => rg_v h 28 q)).toInt ≤ 999)) (hc_z : rn n am_m69 0 (lv_args 0 [.ref 0, .int b, .int m]) [] h r h') (hm_z : rn n' am_m196 0 (lv_args 0 [.ref 164, .int b, .int m]) [] g r' g') (cf_z : ∀ o k, (56 ≤ o ∧ o ≤ 59) ∨ (o = 0 ∧ k = 8) → rg_v h' o k = rg_v h o k) (mf : ∀ q, rg_v g' 201 q = rg_v g 201 q) (m79_z : rg_v g' 164 79 = rg_v g 164 79) : r = r' ∧ St 0 h' g' ∧ FB h' := by
  have F0 := F.1.1
  have F9 := F.1.2
  have C := mC_of_23 S K L N Bl Lk
  have KK := K
  obtain ⟨⟨h0_z, h9_z⟩, ⟨p0_z, p9_z⟩, ⟨l0_z, l9_z⟩⟩ := Tb
  obtain ⟨-, ⟨k2_z, k20_z, k24_z⟩, -, -, -, ⟨C0, C1, C2, C3⟩, -, -, -⟩ := K
  have v2_z := V.2.1
  have SS := S
  have St1 : St 1 h g := ⟨⟨fun j a b => S.1.1 j (by omega) b, S.1.2⟩, ⟨S.2.1.1, S.2.1.2.1, S.2.1.2.2.1, fun j hj_z => ⟨fun i a b => (S.2.1.2.2.2 j hj_z).1 i (by omega) b, (S.2.1.2.2.2 j hj_z).2⟩⟩, ⟨S.2.2.1, fun hb_z => ⟨fun i a b => (S.2.2.2 hb_z).1 i (by omega) b, (S.2.2.2 hb_z).2⟩⟩⟩
  obtain ⟨⟨sv0_z, o1_z, o3_z, o5_z⟩, ⟨⟨n0_z, n1_z⟩, ⟨z0_z, z1_z⟩, e77_z, -⟩, -⟩ := S
  have sv : ∀ j, 1 ≤ j → j < 17 → cS_z h 48 j = mS g 0 j := fun j a b => sv0_z j (by omega) b
  have u0_z : 0 ≤ (rg_v g 164 77).toInt := by rw [← e77_z]; exact z0_z
  have u20_z : (rg_v g 164 77).toInt ≤ 20 := by rw [← e77_z]; exact z1_z
  have q0_z : rg_v g 188 0 = rg_v h 48 0 := (sv0_z 0 (by decide) (by decide)).symm
  have g4_z : (rg_v g 164 12).toInt ≤ 4 := by rw [← k2_z]; exact k24_z
  have q1_z : rg_v g 189 0 = rg_v h 48 1 := (sv 1 (by decide) (by decide)).symm
  have q2_z : rg_v g 190 0 = rg_v h 48 2 := (sv 2 (by decide) (by decide)).symm
  by_cases hb_z : 0 ≤ b.toInt ∧ b.toInt < (rg_v h 23 2).toInt
  · have cb := rt_cl hb_z.1
    have b4_z : b.toNatClampNeg < 4 := by omega
    have KB : ∀ k, k < 8 → rg_v h (40 + b.toNatClampNeg) k = rK_bm g b.toNatClampNeg k := by
      intro k hk_z
      have h4_z : b.toNatClampNeg = 0 ∨ b.toNatClampNeg = 1 ∨ b.toNatClampNeg = 2 ∨ b.toNatClampNeg = 3 := by omega
      rcases h4_z with e | e | e | e
      · rw [e]; exact C0 (by omega) k hk_z
      · rw [e]; exact C1 (by omega) k hk_z
      · rw [e]; exact C2 (by omega) k hk_z
      · rw [e]; exact C3 (by omega) k hk_z
    have kb : ∀ f, f < 7 → rg_v g 170 (7 * b.toNatClampNeg + f) = rg_v h (40 + b.toNatClampNeg) (f + 1) := by
      intro f f7_z
      have q := KB (f + 1) (by omega)
      unfold rK_bm at q
      rw [if_neg (by omega), Nat.add_sub_cancel] at q
      exact q.symm
    have bb : ∀ f, 1 ≤ f → f < 8 → 0 ≤ (rg_v h (40 + b.toNatClampNeg) f).toInt ∧ (rg_v h (40 + b.toNatClampNeg) f).toInt ≤ 99 := fun f f1_z f8_z => B b.toNatClampNeg f b4_z f1_z f8_z
    have vt : 1 ≤ (rg_v h (40 + b.toNatClampNeg) 3).toInt := (v2_z b.toNatClampNeg (by omega)).2.1
    have v20_z : (rg_v h (40 + b.toNatClampNeg) 3).toInt ≤ 20 := T b.toNatClampNeg b4_z
    have z4_z : 4 * 0 + b.toNatClampNeg = b.toNatClampNeg := by omega
    have m5_z : rg_v g 191 b.toNatClampNeg = rg_v h 49 b.toNatClampNeg := by
      have q := sv (5 + b.toNatClampNeg) (by omega) (by omega)
      rw [cS_s b4_z, mS_s b4_z, z4_z] at q
      exact q.symm
    have m9_z : rg_v g 192 b.toNatClampNeg = rg_v h 50 b.toNatClampNeg := by
      have q := sv (9 + b.toNatClampNeg) (by omega) (by omega)
      rw [cS_a b4_z, mS_a b4_z, z4_z] at q
      exact q.symm
    have m13_z : rg_v g 193 b.toNatClampNeg = rg_v h 51 b.toNatClampNeg := by
      have q := sv (13 + b.toNatClampNeg) (by omega) (by omega)
      rw [cS_n b4_z, mS_n b4_z, z4_z] at q
      exact q.symm
    have kb0_z : rg_v g 170 (7 * b.toNatClampNeg) = rg_v h (40 + b.toNatClampNeg) 1 := kb 0 (by decide)
    have c := se_69_23 D k24_z rfl rfl rfl rfl rfl rfl rfl rfl rfl o1_z.1 o1_z.2 (fun _ _ => ⟨bb 6 (by decide) (by decide), bb 4 (by decide) (by decide)⟩) n0_z n1_z z0_z z1_z hc_z
    have d := mf_196 g4_z q1_z q2_z m5_z m9_z m13_z (kb 2 (by decide)) (kb 3 (by decide)) (kb 4 (by decide)) (kb 5 (by decide)) o1_z.1 o1_z.2 (fun _ _ => ⟨bb 6 (by decide) (by decide), bb 4 (by decide) (by decide)⟩) u0_z u20_z hm_z
    rw [← k2_z] at d
    rcases c with ⟨v, cr, kp⟩ | ⟨v, w, cr, kp⟩ | ⟨v, w, x, cr, kp⟩ | ⟨v, w, x, -, cp_z, cw, cfr⟩
    · rcases d with ⟨-, dr, km⟩ | ⟨v2_z, -⟩ | ⟨v2_z, -⟩ | ⟨v2_z, -⟩
      · exact ⟨by rw [cr, dr], St_kk (by decide) kp km SS, FB_kk kp F⟩
      · exact absurd v2_z v
      · exact absurd v2_z v
      · exact absurd v2_z v
    · obtain ⟨di, li, -⟩ := bl_eq St1 rfl rfl rfl k24_z (fun _ _ => ⟨bb 5 (by decide) (by decide), ⟨vt, v20_z⟩, bb 6 (by decide) (by decide), bb 4 (by decide) (by decide)⟩) v
      rcases d with ⟨v2_z, -⟩ | ⟨-, w2_z, dr, km⟩ | ⟨-, w2_z, -⟩ | ⟨-, w2_z, -⟩
      · exact absurd v v2_z
      · exact ⟨by rw [cr, dr], St_kk (by decide) kp km SS, FB_kk kp F⟩
      · exact absurd (di.mpr w) w2_z
      · exact absurd (di.mpr w) w2_z
    · obtain ⟨di, li, -⟩ := bl_eq St1 rfl rfl rfl k24_z (fun _ _ => ⟨bb 5 (by decide) (by decide), ⟨vt, v20_z⟩, bb 6 (by decide) (by decide), bb 4 (by decide) (by decide)⟩) v
      rcases d with ⟨v2_z, -⟩ | ⟨-, w2_z, -⟩ | ⟨-, -, -, dr, km⟩ | ⟨-, -, x2_z, -⟩
      · exact absurd v v2_z
      · exact absurd (di.mp w2_z) w
      · exact ⟨by rw [cr, dr], St_kk (by decide) kp km SS, FB_kk kp F⟩
      · exact absurd (li.mp x) x2_z
    · obtain ⟨di, li, bt_⟩ := bl_eq St1 rfl rfl rfl k24_z (fun _ _ => ⟨bb 5 (by decide) (by decide), ⟨vt, v20_z⟩, bb 6 (by decide) (by decide), bb 4 (by decide) (by decide)⟩) v
      rcases d with ⟨v2_z, -⟩ | ⟨-, w2_z, -⟩ | ⟨-, -, x2_z, -⟩ | ⟨-, w2_z, x2_z, -, dp, dw⟩
      · exact absurd v v2_z
      · exact absurd (di.mp w2_z) w
      · exact absurd (li.mpr x2_z) x
      · have oe := o5_z b.toNatClampNeg b4_z
        rw [cS_s b4_z] at oe
        have bs := bb 1 (by decide) (by decide)
        have be := bb 2 (by decide) (by decide)
        have bk_ := bb 4 (by decide) (by decide)
        have bh := bb 6 (by decide) (by decide)
        obtain ⟨F1, G, a1_z, a2_z, a3_z, a4_z⟩ := sf_69_23 (s1_z := rg_v h 48 1) L ⟨D, fun _ _ _ _ => rfl, rfl, rfl, rfl, rfl, rfl, fun _ => rfl⟩ k24_z rfl rfl rfl rfl rfl rfl rfl rfl rfl rfl h0_z h9_z p0_z p9_z l0_z l9_z bs.1 bs.2 be.1 be.2 bk_.1 bk_.2 bh.1 bh.2 F0 F9 o1_z.1 o1_z.2 oe.2.1 oe.2.2 n0_z n1_z z0_z z1_z v.1 v.2.1 v.2.2.1 v.2.2.2 w x hc_z
        obtain ⟨F2, G2, b1_z, b2_z, b3_z, b4_⟩ := sf_196 h0_z h9_z p0_z p9_z l0_z l9_z C g4_z q0_z q1_z q2_z m5_z m13_z kb0_z (kb 1 (by decide)) (kb 2 (by decide)) (kb 3 (by decide)) (kb 4 (by decide)) (kb 5 (by decide)) bs.1 bs.2 be.1 be.2 bk_.1 bk_.2 bh.1 bh.2 F0 F9 o1_z.1 o1_z.2 oe.2.1 oe.2.2 u0_z u20_z v.1 (by rw [← k2_z]; exact v.2.1) v.2.2.1 v.2.2.2 w2_z (by omega) hm_z
        have e1_z := gR_u _ _ _ _ _ a1_z b1_z
        subst e1_z
        have e2_z := bR_u _ _ _ _ _ _ _ a2_z b2_z
        subst e2_z
        have g1_z := gR_r h0_z h9_z p0_z l0_z (by decide) _ _ _ _ F0 F9 a1_z
        have g2_z := bR_r h0_z h9_z p0_z l0_z bs.1 bs.2 be.1 be.2 _ _ _ _ _ _ g1_z.1 g1_z.2 oe.2.1 (by omega) a2_z
        exact ⟨by rw [a4_z, b4_], St_push SS S1 cp_z cfr dp cf_z mf m79_z (a3_z.trans b3_z.symm), FB_push F n0_z cp_z cfr cf_z (by rw [a3_z]; exact g2_z.1) (by rw [a3_z]; exact g2_z.2)⟩
  · have c := se_69_23 D k24_z rfl rfl rfl rfl rfl rfl rfl rfl rfl o1_z.1 o1_z.2 (fun x y => absurd ⟨x, y⟩ hb_z) n0_z n1_z z0_z z1_z hc_z
    have d := mf_196 g4_z q1_z q2_z rfl rfl rfl rfl rfl rfl rfl o1_z.1 o1_z.2 (fun x y => absurd ⟨x, by rw [k2_z]; exact y⟩ hb_z) u0_z u20_z hm_z
    rw [← k2_z] at d
    have nv : ¬ (0 ≤ b.toInt ∧ b.toInt < (rg_v h 23 2).toInt ∧ 1 ≤ m.toInt ∧ m.toInt ≤ 20) := fun q => hb_z ⟨q.1, q.2.1⟩
    rcases c with ⟨-, cr, kp⟩ | ⟨v, -⟩ | ⟨v, -⟩ | ⟨v, -⟩
    · rcases d with ⟨-, dr, km⟩ | ⟨v, -⟩ | ⟨v, -⟩ | ⟨v, -⟩
      · exact ⟨by rw [cr, dr], St_kk (by decide) kp km SS, FB_kk kp F⟩
      · exact absurd v nv
      · exact absurd v nv
      · exact absurd v nv
    · exact absurd v nv
    · exact absurd v nv
    · exact absurd v nv
