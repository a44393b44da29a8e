/-! ===== THE TOKENS OF BOTH SIDES ARE ALIKE, the end (wip/r/gen99qi.py) ===== -/
/-- what stands for the same in both -/
def tk (a b c d : Int32) : Prop := (a = 0 ∧ c = 0) ∨ (a = 1 ∧ (c = 6 ∨ (c = 4 ∧ d = 37))) ∨ (∃ k : Nat, k < 17 ∧ a = 2 ∧ c = 1 ∧ b = Int32.ofNat k ∧ d = Int32.ofNat (rt_pm k)) ∨ (a = 3 ∧ c = 2 ∧ b = d)
  ∨ (a = 4 ∧ c = 3 ∧ 0 ≤ b.toInt ∧ 0 ≤ d.toInt ∧ (b = d ∨ (99999 < b.toInt ∧ 99999 < d.toInt))) ∨ (a = 5 ∧ c = 4 ∧ b = d ∧ (b = 59 ∨ b = 40 ∨ b = 41))
  ∨ (a = 6 ∧ ((b = 3 ∧ c = 1 ∧ d = 13) ∨ (b = 4 ∧ c = 1 ∧ d = 12) ∨ (b = 5 ∧ c = 1 ∧ d = 14) ∨ (b = 6 ∧ c = 5 ∧ d = 0) ∨ (b = 7 ∧ c = 5 ∧ d = 1) ∨ (b = 8 ∧ c = 5 ∧ d = 2) ∨ (b = 9 ∧ c = 5 ∧ d = 3) ∨ (b = 10 ∧ c = 5 ∧ d = 4) ∨ (b = 11 ∧ c = 5 ∧ d = 5)
    ∨ (b = 12 ∧ c = 4 ∧ d = 43) ∨ (b = 13 ∧ c = 4 ∧ d = 45) ∨ (b = 14 ∧ c = 4 ∧ d = 42) ∨ (b = 15 ∧ c = 4 ∧ d = 47)))
theorem rt_sr (c d : Int32) : (rt_sC c d).2.2 = (rt_sM c d).2.2 ∧ tk (rt_sC c d).1 (rt_sC c d).2.1 (rt_sM c d).1 (rt_sM c d).2.1 := by
  have sg : ∀ b c d : Int32, ((b = 3 ∧ c = 1 ∧ d = 13) ∨ (b = 4 ∧ c = 1 ∧ d = 12) ∨ (b = 5 ∧ c = 1 ∧ d = 14) ∨ (b = 6 ∧ c = 5 ∧ d = 0) ∨ (b = 7 ∧ c = 5 ∧ d = 1) ∨ (b = 8 ∧ c = 5 ∧ d = 2) ∨ (b = 9 ∧ c = 5 ∧ d = 3) ∨ (b = 10 ∧ c = 5 ∧ d = 4) ∨ (b = 11 ∧ c = 5 ∧ d = 5)
    ∨ (b = 12 ∧ c = 4 ∧ d = 43) ∨ (b = 13 ∧ c = 4 ∧ d = 45) ∨ (b = 14 ∧ c = 4 ∧ d = 42) ∨ (b = 15 ∧ c = 4 ∧ d = 47)) → tk 6 b c d := fun b c d h => Or.inr (Or.inr (Or.inr (Or.inr (Or.inr (Or.inr ⟨rfl, h⟩)))))
  unfold rt_sC rt_sM
  by_cases h60_z : c = 60
  · subst h60_z
    rw [if_pos rfl, if_pos rfl]
    by_cases d61_z : d = 61
    · rw [if_pos d61_z, if_pos d61_z]; exact ⟨rfl, sg _ _ _ (by decide)⟩
    · rw [if_neg d61_z, if_neg d61_z]
      by_cases d62_z : d = 62
      · rw [if_pos d62_z, if_pos d62_z]; exact ⟨rfl, sg _ _ _ (by decide)⟩
      · rw [if_neg d62_z, if_neg d62_z]; exact ⟨rfl, sg _ _ _ (by decide)⟩
  rw [if_neg h60_z, if_neg h60_z]
  by_cases h62_z : c = 62
  · subst h62_z
    rw [if_pos rfl, if_pos rfl]
    by_cases d61_z : d = 61
    · rw [if_pos d61_z, if_pos d61_z]; exact ⟨rfl, sg _ _ _ (by decide)⟩
    · rw [if_neg d61_z, if_neg d61_z]; exact ⟨rfl, sg _ _ _ (by decide)⟩
  rw [if_neg h62_z, if_neg h62_z]
  by_cases h61_z : c = 61
  · subst h61_z
    rw [if_pos rfl, if_pos rfl]
    exact ⟨rfl, sg _ _ _ (by decide)⟩
  rw [if_neg h61_z, if_neg h61_z]
  by_cases h43_z : c = 43
  · subst h43_z
    rw [if_pos rfl, if_pos rfl]
    exact ⟨rfl, sg _ _ _ (by decide)⟩
  rw [if_neg h43_z, if_neg h43_z]
  by_cases h45_z : c = 45
  · subst h45_z
    rw [if_pos rfl, if_pos rfl]
    exact ⟨rfl, sg _ _ _ (by decide)⟩
  rw [if_neg h45_z, if_neg h45_z]
  by_cases h42_z : c = 42
  · subst h42_z
    rw [if_pos rfl, if_pos rfl]
    exact ⟨rfl, sg _ _ _ (by decide)⟩
  rw [if_neg h42_z, if_neg h42_z]
  by_cases h47_z : c = 47
  · subst h47_z
    rw [if_pos rfl, if_pos rfl]
    exact ⟨rfl, sg _ _ _ (by decide)⟩
  rw [if_neg h47_z, if_neg h47_z]
  by_cases h3_z : c = 59 ∨ c = 40 ∨ c = 41
  · rw [if_pos h3_z, if_pos h3_z]
    exact ⟨rfl, Or.inr (Or.inr (Or.inr (Or.inr (Or.inr (Or.inl ⟨rfl, rfl, rfl, h3_z⟩)))))⟩
  rw [if_neg h3_z, if_neg h3_z]
  by_cases h37_z : c = 37
  · rw [if_pos h37_z]
    exact ⟨rfl, Or.inr (Or.inl ⟨rfl, Or.inr ⟨rfl, h37_z⟩⟩)⟩
  · rw [if_neg h37_z]
    exact ⟨rfl, Or.inr (Or.inl ⟨rfl, Or.inl rfl⟩)⟩
theorem rt_nat {x y : Int32} (hx_z : 0 ≤ x.toInt) (hy : 0 ≤ y.toInt) (h : x.toNatClampNeg = y.toNatClampNeg) : x = y := by
  have a := rt_cl hx_z
  have b := rt_cl hy
  exact rt_i32 (by omega)
theorem rt_rel {T : Nat → Int32} {S x p y kd vl p' y' kd' vl' : Int32} (y0_z : 0 ≤ y.toInt) (y0_z' : 0 ≤ y'.toInt) (hC : rt_tC T S x p y kd vl) (hM : rt_tM T S x p' y' kd' vl') : p' = p ∧ y' = y ∧ tk kd vl kd' vl' := by
  obtain ⟨c1_z, c2_z, c3_z, c4_z⟩ := hC
  obtain ⟨m1_z, m2_z, m3_z, m4_z⟩ := hM
  have hp_z : p' = p := rt_nat m2_z c2_z (m1_z.trans c1_z.symm)
  subst hp_z
  refine ⟨rfl, ?_⟩
  have cp_z := rt_cl c2_z
  have cS_z := rt_cl (x := S) (by omega)
  have cy_z := rt_cl y0_z
  have cy_z' := rt_cl y0_z'
  rcases c4_z with ⟨a1_z, a2_z, a3_z⟩ | ⟨a1_z, a2_z, a3_z, a4_z⟩ | ⟨a1_z, a2_z, a3_z, a4_z, a5_z, a6_z⟩ | ⟨a1_z, a2_z, a3_z, a4_z, a5_z, a6_z⟩
  · rcases m4_z with ⟨b1_z, b2_z, b3_z⟩ | ⟨b1_z, -⟩ | ⟨b1_z, -⟩ | ⟨b1_z, -⟩
    · exact ⟨b2_z.trans a2_z.symm, Or.inl ⟨a3_z, b3_z⟩⟩
    all_goals (rw [a1_z] at b1_z; omega)
  · rcases m4_z with ⟨b1_z, -⟩ | ⟨b1_z, b2_z, b3_z, b4_z⟩ | ⟨b1_z, b2_z, -⟩ | ⟨b1_z, b2_z, -⟩
    · rw [b1_z] at a1_z; omega
    rotate_left
    · rw [a2_z] at b2_z; exact absurd b2_z (by decide)
    · rw [a2_z] at b2_z; exact absurd b2_z (by decide)
    have hy : y' = y := rt_nat y0_z' y0_z (b3_z.trans a3_z.symm)
    subst hy
    refine ⟨rfl, ?_⟩
    have hle := (rd_end_le (f := rd_sm) (T := T) (s := S.toNatClampNeg) (p := p'.toNatClampNeg) (by omega)).1
    have hs_z : ∀ q, p'.toNatClampNeg ≤ q → q < y'.toNatClampNeg → rd_sm (T q) = true := fun q h1_z h2_z => (rd_end_all (s := S.toNatClampNeg) h1_z (by omega)).2
    rcases a4_z with ⟨a4_z, a5_z⟩ | ⟨a4_z, a5_z⟩
    · refine Or.inr (Or.inl ⟨a5_z, Or.inl ?_⟩)
      rcases b4_z with ⟨k, hk_z, -, -, hw_z⟩ | ⟨-, ⟨-, b5_z⟩ | ⟨b5_z, -⟩⟩
      · have h1_z := hw_z.1
        have h6_z : rt_ln k ≤ 6 := (by decide : ∀ k, k < 20 → rt_ln k ≤ 6) k hk_z
        omega
      · exact b5_z
      · omega
    · have hL : y'.toNatClampNeg - p'.toNatClampNeg ≤ 6 := by omega
      rw [rt_lm hL, show p'.toNatClampNeg + (y'.toNatClampNeg - p'.toNatClampNeg) = y'.toNatClampNeg by omega] at a5_z
      have hwx := fun k hk_z => rt_wx hs_z (by omega) (by omega) k hk_z
      rcases a5_z with ⟨k, hk_z, e1_z, e2_z, e3_z⟩ | ⟨hn_z, e2_z, e3_z⟩
      · have hi_z := (hwx k hk_z).mp e1_z
        rcases b4_z with ⟨m, hm_z, f1_z, f2_z, hw_z⟩ | ⟨hno, -⟩
        · obtain ⟨k', hk_z', ek⟩ := rt_pmi m hm_z
          have e1_z' := (hwx k' hk_z').mpr (ek ▸ hw_z)
          have hkk : k' = k := (by decide : ∀ a, a < 20 → ∀ b, b < 20 → rt_w a = rt_w b → a = b) k' hk_z' k hk_z (e1_z'.trans e1_z.symm)
          subst hkk
          subst ek
          by_cases h17_z : k' < 17
          · refine Or.inr (Or.inr (Or.inl ⟨k', h17_z, ?_, f1_z, ?_, f2_z⟩))
            · rw [e2_z]; exact if_pos h17_z
            · rw [e3_z]; exact if_pos h17_z
          · have e2_z' : kd = 6 := e2_z.trans (if_neg h17_z)
            have e3_z' : vl = Int32.ofNat (k' - 14) := e3_z.trans (if_neg h17_z)
            refine Or.inr (Or.inr (Or.inr (Or.inr (Or.inr (Or.inr ⟨e2_z', ?_⟩)))))
            subst f1_z f2_z e3_z'
            have h3_z : k' = 17 ∨ k' = 18 ∨ k' = 19 := by omega
            rcases h3_z with h | h | h
            · subst h; exact Or.inl (by decide)
            · subst h; exact Or.inr (Or.inl (by decide))
            · subst h; exact Or.inr (Or.inr (Or.inl (by decide)))
        · exact absurd hi_z (hno _ ((by decide : ∀ k, k < 20 → rt_pm k < 20) k hk_z))
      · rcases b4_z with ⟨m, hm_z, f1_z, f2_z, hw_z⟩ | ⟨hno, ⟨b5_z, -⟩ | ⟨-, b5_z, b6_z⟩⟩
        · obtain ⟨k', hk_z', ek⟩ := rt_pmi m hm_z
          exact absurd ((hwx k' hk_z').mpr (ek ▸ hw_z)) (hn_z k' hk_z')
        · omega
        · exact Or.inr (Or.inr (Or.inr (Or.inl ⟨e2_z, b5_z, e3_z.trans b6_z.symm⟩)))
  · rcases m4_z with ⟨b1_z, -⟩ | ⟨b1_z, b2_z, -⟩ | ⟨b1_z, b2_z, b3_z, b4_z, b5_z, b6_z⟩ | ⟨b1_z, b2_z, b3_z, -⟩
    · rw [b1_z] at a1_z; omega
    · rw [a2_z] at b2_z; exact absurd b2_z (by decide)
    · have hy : y' = y := rt_nat y0_z' y0_z (b4_z.trans a4_z.symm)
      subst hy
      refine ⟨rfl, Or.inr (Or.inr (Or.inr (Or.inr (Or.inl ⟨a5_z, b5_z, ?_⟩))))⟩
      have hle := (rd_end_le (f := rd_dg) (T := T) (s := S.toNatClampNeg) (p := p'.toNatClampNeg) (by omega)).1
      obtain ⟨n0_z, n1_z, n2_z⟩ := rt_nv (T := T) (p := p'.toNatClampNeg) (y'.toNatClampNeg - p'.toNatClampNeg) (fun k hk_z => (rd_end_all (f := rd_dg) (T := T) (s := S.toNatClampNeg) (p := p'.toNatClampNeg) (by omega) (by omega)).2)
      refine ⟨by omega, by omega, ?_⟩
      rcases n2_z with n2_z | n2_z
      · exact Or.inl (rt_i32 (by omega))
      · exact Or.inr (by omega)
    · rw [a3_z] at b3_z; exact absurd b3_z (by decide)
  · rcases m4_z with ⟨b1_z, -⟩ | ⟨b1_z, b2_z, -⟩ | ⟨b1_z, b2_z, b3_z, -⟩ | ⟨b1_z, b2_z, b3_z, b4_z, b5_z, b6_z⟩
    · rw [b1_z] at a1_z; omega
    · rw [a2_z] at b2_z; exact absurd b2_z (by decide)
    · rw [a3_z] at b3_z; exact absurd b3_z (by decide)
    · have hr := rt_sr (T p'.toNatClampNeg) (rt_nx T S.toNatClampNeg (p'.toNatClampNeg + 1))
      refine ⟨by rw [b4_z, a4_z, hr.1], ?_⟩
      rw [a5_z, a6_z, b5_z, b6_z]
      exact hr.2
/-- a token of both sides -/
theorem rt_pair {T : Nat → Int32} {S x : Int32} {n n' : Nat} {h h' g g' : am_H} {r r' : Option Value} (hC : rt_C T S x h) (hM : rt_M T S x g) (hc_z : rn n am_m19 0 (lv_args 0 [.ref 44]) [] h r h') (hm_z : rn n' am_m151 0 (lv_args 0 [.ref 164]) [] g r' g') : r = none ∧ r' = none ∧ ∃ p y, rt_C T S y h' ∧ rt_M T S y g' ∧ ab_Fr rt_mC h h' ∧ ab_Fr rt_mM g g' ∧ rg_v h' 44 9 = p ∧ rg_v g' 164 10 = p ∧ 0 ≤ p.toInt ∧ p.toInt ≤ S.toInt ∧ tk (rg_v h' 44 10) (rg_v h' 44 11) (rg_v g' 164 8) (rg_v g' 164 9) := by
  obtain ⟨c0_z, p, y, c1_z, c2_z, c3_z, c4_z⟩ := rt_advC hC hc_z
  obtain ⟨m0_z, p', y', m1_z, m2_z, m3_z, m4_z⟩ := rt_tokM hM hm_z
  obtain ⟨e1_z, e2_z, e3_z⟩ := rt_rel c1_z.2.2.2.1 m1_z.2.2.1 c4_z m4_z
  subst e1_z e2_z
  exact ⟨c0_z, m0_z, _, _, c1_z, m1_z, c2_z, m2_z, c3_z, m3_z, c4_z.2.1, c4_z.2.2.1, e3_z⟩
