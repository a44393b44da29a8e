/-! ===== THE MODEL'S FIELDS AND ROWS, a lemma each (wip/s/walk.py) ===== -/
theorem ac_o : am_ks0[164]? = some (.inl 12) := by decide +kernel
theorem ac_k165 : am_ks0[165]? = some (.inr (.int, 700)) := by decide +kernel
theorem ac_k166 : am_ks0[166]? = some (.inr (.int, 101)) := by decide +kernel
theorem ac_k168 : am_ks0[168]? = some (.inr (.int, 12)) := by decide +kernel
theorem ac_k169 : am_ks0[169]? = some (.inr (.int, 8)) := by decide +kernel
theorem ac_k170 : am_ks0[170]? = some (.inr (.int, 56)) := by decide +kernel
theorem ac_k171 : am_ks0[171]? = some (.inr (.int, 16)) := by decide +kernel
theorem ac_k172 : am_ks0[172]? = some (.inr (.int, 16)) := by decide +kernel
theorem ac_k173 : am_ks0[173]? = some (.inr (.int, 12)) := by decide +kernel
theorem ac_k174 : am_ks0[174]? = some (.inr (.int, 12)) := by decide +kernel
theorem ac_k175 : am_ks0[175]? = some (.inr (.int, 6)) := by decide +kernel
theorem ac_k176 : am_ks0[176]? = some (.inr (.int, 6)) := by decide +kernel
theorem ac_k177 : am_ks0[177]? = some (.inr (.int, 6)) := by decide +kernel
theorem ac_k179 : am_ks0[179]? = some (.inr (.int, 6)) := by decide +kernel
theorem ac_k180 : am_ks0[180]? = some (.inr (.int, 6)) := by decide +kernel
theorem ac_k181 : am_ks0[181]? = some (.inr (.int, 128)) := by decide +kernel
theorem ac_k182 : am_ks0[182]? = some (.inr (.int, 128)) := by decide +kernel
theorem ac_k183 : am_ks0[183]? = some (.inr (.int, 128)) := by decide +kernel
theorem ac_k184 : am_ks0[184]? = some (.inr (.int, 96)) := by decide +kernel
theorem ac_k185 : am_ks0[185]? = some (.inr (.int, 96)) := by decide +kernel
theorem ac_k188 : am_ks0[188]? = some (.inr (.int, 4)) := by decide +kernel
theorem ac_k189 : am_ks0[189]? = some (.inr (.int, 4)) := by decide +kernel
theorem ac_k190 : am_ks0[190]? = some (.inr (.int, 4)) := by decide +kernel
theorem ac_k191 : am_ks0[191]? = some (.inr (.int, 16)) := by decide +kernel
theorem ac_k192 : am_ks0[192]? = some (.inr (.int, 16)) := by decide +kernel
theorem ac_k193 : am_ks0[193]? = some (.inr (.int, 16)) := by decide +kernel
theorem ac_k194 : am_ks0[194]? = some (.inr (.int, 4)) := by decide +kernel
theorem ac_k195 : am_ks0[195]? = some (.inr (.int, 4)) := by decide +kernel
theorem ac_k197 : am_ks0[197]? = some (.inr (.int, 6)) := by decide +kernel
theorem ac_k198 : am_ks0[198]? = some (.inr (.int, 96)) := by decide +kernel
theorem ac_k200 : am_ks0[200]? = some (.inr (.int, 340)) := by decide +kernel
theorem ac_k201 : am_ks0[201]? = some (.inr (.int, 17)) := by decide +kernel
theorem ac_k167 : am_ks0[167]? = some (.inr (.boolean, 4)) := by decide +kernel
theorem ac_k178 : am_ks0[178]? = some (.inr (.boolean, 6)) := by decide +kernel
theorem ac_k199 : am_ks0[199]? = some (.inr (.boolean, 24)) := by decide +kernel
section ACF
variable {h : am_H} {v : Int32} {q : Nat}
theorem ac_g {o k : Nat} {l u : Int} {kd : am_k} (hI : ab_Inv (ab_hi ab_tab) h) (hk : am_ks0[o]? = some kd) (hz : k < ab_sz kd) (ht : ab_hi ab_tab o k = ab_i l u) : ∃ v : Int32, h o k = .int v ∧ l ≤ v.toInt ∧ v.toInt ≤ u := by
  have g := hI o k _ hk hz
  rw [ht] at g
  obtain ⟨v, e, v0, v1⟩ := g
  exact ⟨v, e, v0, v1⟩
theorem ac_p {o k : Nat} {l u : Int} (hI : ab_Inv (ab_hi ab_tab) h) (ht : ab_hi ab_tab o k = ab_i l u) (v0 : l ≤ v.toInt) (v1 : v.toInt ≤ u) : ab_Inv (ab_hi ab_tab) (am_up h o k (.int v)) := ab_Inv_up hI (by rw [ht]; exact ab_i_ok v0 v1)
theorem ac_ar {o : Nat} {l u : Int} (ha : ab_isA ab_tab o = true) (h0 : ab_hi ab_tab o 0 = ab_i l u) (k : Nat) : ab_hi ab_tab o k = ab_i l u := (ab_hi_arr ha k).trans h0
theorem ac_f0 (hI : ab_Inv (ab_hi ab_tab) h) : h 164 0 = .ref 165 := ab_ref1 hI ac_o (by decide +kernel) (by decide +kernel)
theorem ac_g1 (hI : ab_Inv (ab_hi ab_tab) h) : ∃ v : Int32, h 164 1 = .int v ∧ 0 ≤ v.toInt ∧ v.toInt ≤ 700 := ac_g hI ac_o (by decide +kernel) (by decide +kernel)
theorem ac_p1 (hI : ab_Inv (ab_hi ab_tab) h) (v0 : 0 ≤ v.toInt) (v1 : v.toInt ≤ 700) : ab_Inv (ab_hi ab_tab) (am_up h 164 1 (.int v)) := ac_p hI (l := 0) (u := 700) (by decide +kernel) v0 v1
theorem ac_g2 (hI : ab_Inv (ab_hi ab_tab) h) : ∃ v : Int32, h 164 2 = .int v ∧ (-2147483648) ≤ v.toInt ∧ v.toInt ≤ 2147483647 := ac_g hI ac_o (by decide +kernel) (by decide +kernel)
theorem ac_p2 (hI : ab_Inv (ab_hi ab_tab) h) (v0 : (-2147483648) ≤ v.toInt) (v1 : v.toInt ≤ 2147483647) : ab_Inv (ab_hi ab_tab) (am_up h 164 2 (.int v)) := ac_p hI (l := (-2147483648)) (u := 2147483647) (by decide +kernel) v0 v1
theorem ac_f3 (hI : ab_Inv (ab_hi ab_tab) h) : h 164 3 = .ref 166 := ab_ref1 hI ac_o (by decide +kernel) (by decide +kernel)
theorem ac_g4 (hI : ab_Inv (ab_hi ab_tab) h) : ∃ v : Int32, h 164 4 = .int v ∧ 0 ≤ v.toInt ∧ v.toInt ≤ 4 := ac_g hI ac_o (by decide +kernel) (by decide +kernel)
theorem ac_p4 (hI : ab_Inv (ab_hi ab_tab) h) (v0 : 0 ≤ v.toInt) (v1 : v.toInt ≤ 4) : ab_Inv (ab_hi ab_tab) (am_up h 164 4 (.int v)) := ac_p hI (l := 0) (u := 4) (by decide +kernel) v0 v1
theorem ac_g5 (hI : ab_Inv (ab_hi ab_tab) h) : ∃ v : Int32, h 164 5 = .int v ∧ (-1) ≤ v.toInt ∧ v.toInt ≤ 700 := ac_g hI ac_o (by decide +kernel) (by decide +kernel)
theorem ac_p5 (hI : ab_Inv (ab_hi ab_tab) h) (v0 : (-1) ≤ v.toInt) (v1 : v.toInt ≤ 700) : ab_Inv (ab_hi ab_tab) (am_up h 164 5 (.int v)) := ac_p hI (l := (-1)) (u := 700) (by decide +kernel) v0 v1
theorem ac_g6 (hI : ab_Inv (ab_hi ab_tab) h) : ∃ v : Int32, h 164 6 = .int v ∧ 0 ≤ v.toInt ∧ v.toInt ≤ 700 := ac_g hI ac_o (by decide +kernel) (by decide +kernel)
theorem ac_p6 (hI : ab_Inv (ab_hi ab_tab) h) (v0 : 0 ≤ v.toInt) (v1 : v.toInt ≤ 700) : ab_Inv (ab_hi ab_tab) (am_up h 164 6 (.int v)) := ac_p hI (l := 0) (u := 700) (by decide +kernel) v0 v1
theorem ac_g7 (hI : ab_Inv (ab_hi ab_tab) h) : ∃ v : Int32, h 164 7 = .int v ∧ 0 ≤ v.toInt ∧ v.toInt ≤ 700 := ac_g hI ac_o (by decide +kernel) (by decide +kernel)
theorem ac_p7 (hI : ab_Inv (ab_hi ab_tab) h) (v0 : 0 ≤ v.toInt) (v1 : v.toInt ≤ 700) : ab_Inv (ab_hi ab_tab) (am_up h 164 7 (.int v)) := ac_p hI (l := 0) (u := 700) (by decide +kernel) v0 v1
theorem ac_g8 (hI : ab_Inv (ab_hi ab_tab) h) : ∃ v : Int32, h 164 8 = .int v ∧ 0 ≤ v.toInt ∧ v.toInt ≤ 6 := ac_g hI ac_o (by decide +kernel) (by decide +kernel)
theorem ac_p8 (hI : ab_Inv (ab_hi ab_tab) h) (v0 : 0 ≤ v.toInt) (v1 : v.toInt ≤ 6) : ab_Inv (ab_hi ab_tab) (am_up h 164 8 (.int v)) := ac_p hI (l := 0) (u := 6) (by decide +kernel) v0 v1
theorem ac_g9 (hI : ab_Inv (ab_hi ab_tab) h) : ∃ v : Int32, h 164 9 = .int v ∧ (-2147483648) ≤ v.toInt ∧ v.toInt ≤ 2147483647 := ac_g hI ac_o (by decide +kernel) (by decide +kernel)
theorem ac_p9 (hI : ab_Inv (ab_hi ab_tab) h) (v0 : (-2147483648) ≤ v.toInt) (v1 : v.toInt ≤ 2147483647) : ab_Inv (ab_hi ab_tab) (am_up h 164 9 (.int v)) := ac_p hI (l := (-2147483648)) (u := 2147483647) (by decide +kernel) v0 v1
theorem ac_g10 (hI : ab_Inv (ab_hi ab_tab) h) : ∃ v : Int32, h 164 10 = .int v ∧ 0 ≤ v.toInt ∧ v.toInt ≤ 700 := ac_g hI ac_o (by decide +kernel) (by decide +kernel)
theorem ac_p10 (hI : ab_Inv (ab_hi ab_tab) h) (v0 : 0 ≤ v.toInt) (v1 : v.toInt ≤ 700) : ab_Inv (ab_hi ab_tab) (am_up h 164 10 (.int v)) := ac_p hI (l := 0) (u := 700) (by decide +kernel) v0 v1
theorem ac_g11 (hI : ab_Inv (ab_hi ab_tab) h) : ∃ v : Int32, h 164 11 = .int v ∧ (-2147483648) ≤ v.toInt ∧ v.toInt ≤ 2147483647 := ac_g hI ac_o (by decide +kernel) (by decide +kernel)
theorem ac_p11 (hI : ab_Inv (ab_hi ab_tab) h) (v0 : (-2147483648) ≤ v.toInt) (v1 : v.toInt ≤ 2147483647) : ab_Inv (ab_hi ab_tab) (am_up h 164 11 (.int v)) := ac_p hI (l := (-2147483648)) (u := 2147483647) (by decide +kernel) v0 v1
theorem ac_g12 (hI : ab_Inv (ab_hi ab_tab) h) : ∃ v : Int32, h 164 12 = .int v ∧ 0 ≤ v.toInt ∧ v.toInt ≤ 4 := ac_g hI ac_o (by decide +kernel) (by decide +kernel)
theorem ac_p12 (hI : ab_Inv (ab_hi ab_tab) h) (v0 : 0 ≤ v.toInt) (v1 : v.toInt ≤ 4) : ab_Inv (ab_hi ab_tab) (am_up h 164 12 (.int v)) := ac_p hI (l := 0) (u := 4) (by decide +kernel) v0 v1
theorem ac_g13 (hI : ab_Inv (ab_hi ab_tab) h) : ∃ v : Int32, h 164 13 = .int v ∧ 0 ≤ v.toInt ∧ v.toInt ≤ 8 := ac_g hI ac_o (by decide +kernel) (by decide +kernel)
theorem ac_p13 (hI : ab_Inv (ab_hi ab_tab) h) (v0 : 0 ≤ v.toInt) (v1 : v.toInt ≤ 8) : ab_Inv (ab_hi ab_tab) (am_up h 164 13 (.int v)) := ac_p hI (l := 0) (u := 8) (by decide +kernel) v0 v1
theorem ac_g14 (hI : ab_Inv (ab_hi ab_tab) h) : ∃ v : Int32, h 164 14 = .int v ∧ 0 ≤ v.toInt ∧ v.toInt ≤ 6 := ac_g hI ac_o (by decide +kernel) (by decide +kernel)
theorem ac_p14 (hI : ab_Inv (ab_hi ab_tab) h) (v0 : 0 ≤ v.toInt) (v1 : v.toInt ≤ 6) : ab_Inv (ab_hi ab_tab) (am_up h 164 14 (.int v)) := ac_p hI (l := 0) (u := 6) (by decide +kernel) v0 v1
theorem ac_g15 (hI : ab_Inv (ab_hi ab_tab) h) : ∃ v : Int32, h 164 15 = .int v ∧ 0 ≤ v.toInt ∧ v.toInt ≤ 3 := ac_g hI ac_o (by decide +kernel) (by decide +kernel)
theorem ac_p15 (hI : ab_Inv (ab_hi ab_tab) h) (v0 : 0 ≤ v.toInt) (v1 : v.toInt ≤ 3) : ab_Inv (ab_hi ab_tab) (am_up h 164 15 (.int v)) := ac_p hI (l := 0) (u := 3) (by decide +kernel) v0 v1
theorem ac_g16 (hI : ab_Inv (ab_hi ab_tab) h) : ∃ v : Int32, h 164 16 = .int v ∧ 0 ≤ v.toInt ∧ v.toInt ≤ 64 := ac_g hI ac_o (by decide +kernel) (by decide +kernel)
theorem ac_p16 (hI : ab_Inv (ab_hi ab_tab) h) (v0 : 0 ≤ v.toInt) (v1 : v.toInt ≤ 64) : ab_Inv (ab_hi ab_tab) (am_up h 164 16 (.int v)) := ac_p hI (l := 0) (u := 64) (by decide +kernel) v0 v1
theorem ac_g17 (hI : ab_Inv (ab_hi ab_tab) h) : ∃ v : Int32, h 164 17 = .int v ∧ 0 ≤ v.toInt ∧ v.toInt ≤ 4 := ac_g hI ac_o (by decide +kernel) (by decide +kernel)
theorem ac_p17 (hI : ab_Inv (ab_hi ab_tab) h) (v0 : 0 ≤ v.toInt) (v1 : v.toInt ≤ 4) : ab_Inv (ab_hi ab_tab) (am_up h 164 17 (.int v)) := ac_p hI (l := 0) (u := 4) (by decide +kernel) v0 v1
theorem ac_g18 (hI : ab_Inv (ab_hi ab_tab) h) : ∃ v : Int32, h 164 18 = .int v ∧ 0 ≤ v.toInt ∧ v.toInt ≤ 8 := ac_g hI ac_o (by decide +kernel) (by decide +kernel)
theorem ac_p18 (hI : ab_Inv (ab_hi ab_tab) h) (v0 : 0 ≤ v.toInt) (v1 : v.toInt ≤ 8) : ab_Inv (ab_hi ab_tab) (am_up h 164 18 (.int v)) := ac_p hI (l := 0) (u := 8) (by decide +kernel) v0 v1
theorem ac_g19 (hI : ab_Inv (ab_hi ab_tab) h) : ∃ v : Int32, h 164 19 = .int v ∧ 0 ≤ v.toInt ∧ v.toInt ≤ 6 := ac_g hI ac_o (by decide +kernel) (by decide +kernel)
theorem ac_p19 (hI : ab_Inv (ab_hi ab_tab) h) (v0 : 0 ≤ v.toInt) (v1 : v.toInt ≤ 6) : ab_Inv (ab_hi ab_tab) (am_up h 164 19 (.int v)) := ac_p hI (l := 0) (u := 6) (by decide +kernel) v0 v1
theorem ac_g20 (hI : ab_Inv (ab_hi ab_tab) h) : ∃ v : Int32, h 164 20 = .int v ∧ 0 ≤ v.toInt ∧ v.toInt ≤ 3 := ac_g hI ac_o (by decide +kernel) (by decide +kernel)
theorem ac_p20 (hI : ab_Inv (ab_hi ab_tab) h) (v0 : 0 ≤ v.toInt) (v1 : v.toInt ≤ 3) : ab_Inv (ab_hi ab_tab) (am_up h 164 20 (.int v)) := ac_p hI (l := 0) (u := 3) (by decide +kernel) v0 v1
theorem ac_g21 (hI : ab_Inv (ab_hi ab_tab) h) : ∃ v : Int32, h 164 21 = .int v ∧ 0 ≤ v.toInt ∧ v.toInt ≤ 64 := ac_g hI ac_o (by decide +kernel) (by decide +kernel)
theorem ac_p21 (hI : ab_Inv (ab_hi ab_tab) h) (v0 : 0 ≤ v.toInt) (v1 : v.toInt ≤ 64) : ab_Inv (ab_hi ab_tab) (am_up h 164 21 (.int v)) := ac_p hI (l := 0) (u := 64) (by decide +kernel) v0 v1
theorem ac_f22 (hI : ab_Inv (ab_hi ab_tab) h) : h 164 22 = .ref 167 := ab_ref1 hI ac_o (by decide +kernel) (by decide +kernel)
theorem ac_f23 (hI : ab_Inv (ab_hi ab_tab) h) : h 164 23 = .ref 168 := ab_ref1 hI ac_o (by decide +kernel) (by decide +kernel)
theorem ac_f24 (hI : ab_Inv (ab_hi ab_tab) h) : h 164 24 = .ref 169 := ab_ref1 hI ac_o (by decide +kernel) (by decide +kernel)
theorem ac_f25 (hI : ab_Inv (ab_hi ab_tab) h) : h 164 25 = .ref 170 := ab_ref1 hI ac_o (by decide +kernel) (by decide +kernel)
theorem ac_f26 (hI : ab_Inv (ab_hi ab_tab) h) : h 164 26 = .ref 171 := ab_ref1 hI ac_o (by decide +kernel) (by decide +kernel)
theorem ac_f27 (hI : ab_Inv (ab_hi ab_tab) h) : h 164 27 = .ref 172 := ab_ref1 hI ac_o (by decide +kernel) (by decide +kernel)
theorem ac_f28 (hI : ab_Inv (ab_hi ab_tab) h) : h 164 28 = .ref 173 := ab_ref1 hI ac_o (by decide +kernel) (by decide +kernel)
theorem ac_f29 (hI : ab_Inv (ab_hi ab_tab) h) : h 164 29 = .ref 174 := ab_ref1 hI ac_o (by decide +kernel) (by decide +kernel)
theorem ac_f30 (hI : ab_Inv (ab_hi ab_tab) h) : h 164 30 = .ref 175 := ab_ref1 hI ac_o (by decide +kernel) (by decide +kernel)
theorem ac_f31 (hI : ab_Inv (ab_hi ab_tab) h) : h 164 31 = .ref 176 := ab_ref1 hI ac_o (by decide +kernel) (by decide +kernel)
theorem ac_f32 (hI : ab_Inv (ab_hi ab_tab) h) : h 164 32 = .ref 177 := ab_ref1 hI ac_o (by decide +kernel) (by decide +kernel)
theorem ac_f33 (hI : ab_Inv (ab_hi ab_tab) h) : h 164 33 = .ref 178 := ab_ref1 hI ac_o (by decide +kernel) (by decide +kernel)
theorem ac_f34 (hI : ab_Inv (ab_hi ab_tab) h) : h 164 34 = .ref 179 := ab_ref1 hI ac_o (by decide +kernel) (by decide +kernel)
theorem ac_f35 (hI : ab_Inv (ab_hi ab_tab) h) : h 164 35 = .ref 180 := ab_ref1 hI ac_o (by decide +kernel) (by decide +kernel)
theorem ac_f36 (hI : ab_Inv (ab_hi ab_tab) h) : h 164 36 = .ref 181 := ab_ref1 hI ac_o (by decide +kernel) (by decide +kernel)
theorem ac_f37 (hI : ab_Inv (ab_hi ab_tab) h) : h 164 37 = .ref 182 := ab_ref1 hI ac_o (by decide +kernel) (by decide +kernel)
theorem ac_f38 (hI : ab_Inv (ab_hi ab_tab) h) : h 164 38 = .ref 183 := ab_ref1 hI ac_o (by decide +kernel) (by decide +kernel)
theorem ac_f39 (hI : ab_Inv (ab_hi ab_tab) h) : h 164 39 = .ref 184 := ab_ref1 hI ac_o (by decide +kernel) (by decide +kernel)
theorem ac_f40 (hI : ab_Inv (ab_hi ab_tab) h) : h 164 40 = .ref 185 := ab_ref1 hI ac_o (by decide +kernel) (by decide +kernel)
theorem ac_g41 (hI : ab_Inv (ab_hi ab_tab) h) : ∃ v : Int32, h 164 41 = .int v ∧ 0 ≤ v.toInt ∧ v.toInt ≤ 72 := ac_g hI ac_o (by decide +kernel) (by decide +kernel)
theorem ac_p41 (hI : ab_Inv (ab_hi ab_tab) h) (v0 : 0 ≤ v.toInt) (v1 : v.toInt ≤ 72) : ab_Inv (ab_hi ab_tab) (am_up h 164 41 (.int v)) := ac_p hI (l := 0) (u := 72) (by decide +kernel) v0 v1
theorem ac_g42 (hI : ab_Inv (ab_hi ab_tab) h) : ∃ v : Int32, h 164 42 = .int v ∧ 0 ≤ v.toInt ∧ v.toInt ≤ 64 := ac_g hI ac_o (by decide +kernel) (by decide +kernel)
theorem ac_p42 (hI : ab_Inv (ab_hi ab_tab) h) (v0 : 0 ≤ v.toInt) (v1 : v.toInt ≤ 64) : ab_Inv (ab_hi ab_tab) (am_up h 164 42 (.int v)) := ac_p hI (l := 0) (u := 64) (by decide +kernel) v0 v1
theorem ac_g43 (hI : ab_Inv (ab_hi ab_tab) h) : ∃ v : Int32, h 164 43 = .int v ∧ 0 ≤ v.toInt ∧ v.toInt ≤ 8 := ac_g hI ac_o (by decide +kernel) (by decide +kernel)
theorem ac_p43 (hI : ab_Inv (ab_hi ab_tab) h) (v0 : 0 ≤ v.toInt) (v1 : v.toInt ≤ 8) : ab_Inv (ab_hi ab_tab) (am_up h 164 43 (.int v)) := ac_p hI (l := 0) (u := 8) (by decide +kernel) v0 v1
theorem ac_g44 (hI : ab_Inv (ab_hi ab_tab) h) : ∃ v : Int32, h 164 44 = .int v ∧ 0 ≤ v.toInt ∧ v.toInt ≤ 64 := ac_g hI ac_o (by decide +kernel) (by decide +kernel)
theorem ac_p44 (hI : ab_Inv (ab_hi ab_tab) h) (v0 : 0 ≤ v.toInt) (v1 : v.toInt ≤ 64) : ab_Inv (ab_hi ab_tab) (am_up h 164 44 (.int v)) := ac_p hI (l := 0) (u := 64) (by decide +kernel) v0 v1
theorem ac_g45 (hI : ab_Inv (ab_hi ab_tab) h) : ∃ v : Int32, h 164 45 = .int v ∧ 0 ≤ v.toInt ∧ v.toInt ≤ 1 := ac_g hI ac_o (by decide +kernel) (by decide +kernel)
theorem ac_p45 (hI : ab_Inv (ab_hi ab_tab) h) (v0 : 0 ≤ v.toInt) (v1 : v.toInt ≤ 1) : ab_Inv (ab_hi ab_tab) (am_up h 164 45 (.int v)) := ac_p hI (l := 0) (u := 1) (by decide +kernel) v0 v1
theorem ac_g46 (hI : ab_Inv (ab_hi ab_tab) h) : ∃ v : Int32, h 164 46 = .int v ∧ 0 ≤ v.toInt ∧ v.toInt ≤ 1 := ac_g hI ac_o (by decide +kernel) (by decide +kernel)
theorem ac_p46 (hI : ab_Inv (ab_hi ab_tab) h) (v0 : 0 ≤ v.toInt) (v1 : v.toInt ≤ 1) : ab_Inv (ab_hi ab_tab) (am_up h 164 46 (.int v)) := ac_p hI (l := 0) (u := 1) (by decide +kernel) v0 v1
theorem ac_f47 (hI : ab_Inv (ab_hi ab_tab) h) : h 164 47 = .ref 186 := ab_ref1 hI ac_o (by decide +kernel) (by decide +kernel)
theorem ac_f48 (hI : ab_Inv (ab_hi ab_tab) h) : h 164 48 = .ref 187 := ab_ref1 hI ac_o (by decide +kernel) (by decide +kernel)
theorem ac_g49 (hI : ab_Inv (ab_hi ab_tab) h) : ∃ v : Int32, h 164 49 = .int v ∧ 0 ≤ v.toInt ∧ v.toInt ≤ 1 := ac_g hI ac_o (by decide +kernel) (by decide +kernel)
theorem ac_p49 (hI : ab_Inv (ab_hi ab_tab) h) (v0 : 0 ≤ v.toInt) (v1 : v.toInt ≤ 1) : ab_Inv (ab_hi ab_tab) (am_up h 164 49 (.int v)) := ac_p hI (l := 0) (u := 1) (by decide +kernel) v0 v1
theorem ac_f50 (hI : ab_Inv (ab_hi ab_tab) h) : h 164 50 = .ref 188 := ab_ref1 hI ac_o (by decide +kernel) (by decide +kernel)
theorem ac_f51 (hI : ab_Inv (ab_hi ab_tab) h) : h 164 51 = .ref 189 := ab_ref1 hI ac_o (by decide +kernel) (by decide +kernel)
theorem ac_f52 (hI : ab_Inv (ab_hi ab_tab) h) : h 164 52 = .ref 190 := ab_ref1 hI ac_o (by decide +kernel) (by decide +kernel)
theorem ac_f53 (hI : ab_Inv (ab_hi ab_tab) h) : h 164 53 = .ref 191 := ab_ref1 hI ac_o (by decide +kernel) (by decide +kernel)
theorem ac_f54 (hI : ab_Inv (ab_hi ab_tab) h) : h 164 54 = .ref 192 := ab_ref1 hI ac_o (by decide +kernel) (by decide +kernel)
theorem ac_f55 (hI : ab_Inv (ab_hi ab_tab) h) : h 164 55 = .ref 193 := ab_ref1 hI ac_o (by decide +kernel) (by decide +kernel)
theorem ac_f56 (hI : ab_Inv (ab_hi ab_tab) h) : h 164 56 = .ref 194 := ab_ref1 hI ac_o (by decide +kernel) (by decide +kernel)
theorem ac_g57 (hI : ab_Inv (ab_hi ab_tab) h) : ∃ v : Int32, h 164 57 = .int v ∧ (-2147483648) ≤ v.toInt ∧ v.toInt ≤ 2147483647 := ac_g hI ac_o (by decide +kernel) (by decide +kernel)
theorem ac_p57 (hI : ab_Inv (ab_hi ab_tab) h) (v0 : (-2147483648) ≤ v.toInt) (v1 : v.toInt ≤ 2147483647) : ab_Inv (ab_hi ab_tab) (am_up h 164 57 (.int v)) := ac_p hI (l := (-2147483648)) (u := 2147483647) (by decide +kernel) v0 v1
theorem ac_g58 (hI : ab_Inv (ab_hi ab_tab) h) : ∃ v : Int32, h 164 58 = .int v ∧ (-1) ≤ v.toInt ∧ v.toInt ≤ 5 := ac_g hI ac_o (by decide +kernel) (by decide +kernel)
theorem ac_p58 (hI : ab_Inv (ab_hi ab_tab) h) (v0 : (-1) ≤ v.toInt) (v1 : v.toInt ≤ 5) : ab_Inv (ab_hi ab_tab) (am_up h 164 58 (.int v)) := ac_p hI (l := (-1)) (u := 5) (by decide +kernel) v0 v1
theorem ac_g60 (hI : ab_Inv (ab_hi ab_tab) h) : ∃ v : Int32, h 164 60 = .int v ∧ 0 ≤ v.toInt ∧ v.toInt ≤ 1 := ac_g hI ac_o (by decide +kernel) (by decide +kernel)
theorem ac_p60 (hI : ab_Inv (ab_hi ab_tab) h) (v0 : 0 ≤ v.toInt) (v1 : v.toInt ≤ 1) : ab_Inv (ab_hi ab_tab) (am_up h 164 60 (.int v)) := ac_p hI (l := 0) (u := 1) (by decide +kernel) v0 v1
theorem ac_g61 (hI : ab_Inv (ab_hi ab_tab) h) : ∃ v : Int32, h 164 61 = .int v ∧ 0 ≤ v.toInt ∧ v.toInt ≤ 1 := ac_g hI ac_o (by decide +kernel) (by decide +kernel)
theorem ac_p61 (hI : ab_Inv (ab_hi ab_tab) h) (v0 : 0 ≤ v.toInt) (v1 : v.toInt ≤ 1) : ab_Inv (ab_hi ab_tab) (am_up h 164 61 (.int v)) := ac_p hI (l := 0) (u := 1) (by decide +kernel) v0 v1
theorem ac_g62 (hI : ab_Inv (ab_hi ab_tab) h) : ∃ v : Int32, h 164 62 = .int v ∧ (-1) ≤ v.toInt ∧ v.toInt ≤ 6 := ac_g hI ac_o (by decide +kernel) (by decide +kernel)
theorem ac_p62 (hI : ab_Inv (ab_hi ab_tab) h) (v0 : (-1) ≤ v.toInt) (v1 : v.toInt ≤ 6) : ab_Inv (ab_hi ab_tab) (am_up h 164 62 (.int v)) := ac_p hI (l := (-1)) (u := 6) (by decide +kernel) v0 v1
theorem ac_g63 (hI : ab_Inv (ab_hi ab_tab) h) : ∃ v : Int32, h 164 63 = .int v ∧ (-2147483648) ≤ v.toInt ∧ v.toInt ≤ 2147483647 := ac_g hI ac_o (by decide +kernel) (by decide +kernel)
theorem ac_p63 (hI : ab_Inv (ab_hi ab_tab) h) (v0 : (-2147483648) ≤ v.toInt) (v1 : v.toInt ≤ 2147483647) : ab_Inv (ab_hi ab_tab) (am_up h 164 63 (.int v)) := ac_p hI (l := (-2147483648)) (u := 2147483647) (by decide +kernel) v0 v1
theorem ac_g64 (hI : ab_Inv (ab_hi ab_tab) h) : ∃ v : Int32, h 164 64 = .int v ∧ (-2147483648) ≤ v.toInt ∧ v.toInt ≤ 2147483647 := ac_g hI ac_o (by decide +kernel) (by decide +kernel)
theorem ac_p64 (hI : ab_Inv (ab_hi ab_tab) h) (v0 : (-2147483648) ≤ v.toInt) (v1 : v.toInt ≤ 2147483647) : ab_Inv (ab_hi ab_tab) (am_up h 164 64 (.int v)) := ac_p hI (l := (-2147483648)) (u := 2147483647) (by decide +kernel) v0 v1
theorem ac_g65 (hI : ab_Inv (ab_hi ab_tab) h) : ∃ v : Int32, h 164 65 = .int v ∧ (-2147483648) ≤ v.toInt ∧ v.toInt ≤ 2147483647 := ac_g hI ac_o (by decide +kernel) (by decide +kernel)
theorem ac_p65 (hI : ab_Inv (ab_hi ab_tab) h) (v0 : (-2147483648) ≤ v.toInt) (v1 : v.toInt ≤ 2147483647) : ab_Inv (ab_hi ab_tab) (am_up h 164 65 (.int v)) := ac_p hI (l := (-2147483648)) (u := 2147483647) (by decide +kernel) v0 v1
theorem ac_g66 (hI : ab_Inv (ab_hi ab_tab) h) : ∃ v : Int32, h 164 66 = .int v ∧ (-2147483648) ≤ v.toInt ∧ v.toInt ≤ 2147483647 := ac_g hI ac_o (by decide +kernel) (by decide +kernel)
theorem ac_p66 (hI : ab_Inv (ab_hi ab_tab) h) (v0 : (-2147483648) ≤ v.toInt) (v1 : v.toInt ≤ 2147483647) : ab_Inv (ab_hi ab_tab) (am_up h 164 66 (.int v)) := ac_p hI (l := (-2147483648)) (u := 2147483647) (by decide +kernel) v0 v1
theorem ac_g67 (hI : ab_Inv (ab_hi ab_tab) h) : ∃ v : Int32, h 164 67 = .int v ∧ (-2147483648) ≤ v.toInt ∧ v.toInt ≤ 2147483647 := ac_g hI ac_o (by decide +kernel) (by decide +kernel)
theorem ac_p67 (hI : ab_Inv (ab_hi ab_tab) h) (v0 : (-2147483648) ≤ v.toInt) (v1 : v.toInt ≤ 2147483647) : ab_Inv (ab_hi ab_tab) (am_up h 164 67 (.int v)) := ac_p hI (l := (-2147483648)) (u := 2147483647) (by decide +kernel) v0 v1
theorem ac_f68 (hI : ab_Inv (ab_hi ab_tab) h) : h 164 68 = .ref 195 := ab_ref1 hI ac_o (by decide +kernel) (by decide +kernel)
theorem ac_g69 (hI : ab_Inv (ab_hi ab_tab) h) : ∃ v : Int32, h 164 69 = .int v ∧ (-2147483648) ≤ v.toInt ∧ v.toInt ≤ 2147483647 := ac_g hI ac_o (by decide +kernel) (by decide +kernel)
theorem ac_p69 (hI : ab_Inv (ab_hi ab_tab) h) (v0 : (-2147483648) ≤ v.toInt) (v1 : v.toInt ≤ 2147483647) : ab_Inv (ab_hi ab_tab) (am_up h 164 69 (.int v)) := ac_p hI (l := (-2147483648)) (u := 2147483647) (by decide +kernel) v0 v1
theorem ac_g70 (hI : ab_Inv (ab_hi ab_tab) h) : ∃ v : Int32, h 164 70 = .int v ∧ (-2147483648) ≤ v.toInt ∧ v.toInt ≤ 2147483647 := ac_g hI ac_o (by decide +kernel) (by decide +kernel)
theorem ac_p70 (hI : ab_Inv (ab_hi ab_tab) h) (v0 : (-2147483648) ≤ v.toInt) (v1 : v.toInt ≤ 2147483647) : ab_Inv (ab_hi ab_tab) (am_up h 164 70 (.int v)) := ac_p hI (l := (-2147483648)) (u := 2147483647) (by decide +kernel) v0 v1
theorem ac_f71 (hI : ab_Inv (ab_hi ab_tab) h) : h 164 71 = .ref 196 := ab_ref1 hI ac_o (by decide +kernel) (by decide +kernel)
theorem ac_f72 (hI : ab_Inv (ab_hi ab_tab) h) : h 164 72 = .ref 197 := ab_ref1 hI ac_o (by decide +kernel) (by decide +kernel)
theorem ac_g73 (hI : ab_Inv (ab_hi ab_tab) h) : ∃ v : Int32, h 164 73 = .int v ∧ 0 ≤ v.toInt ∧ v.toInt ≤ 24 := ac_g hI ac_o (by decide +kernel) (by decide +kernel)
theorem ac_p73 (hI : ab_Inv (ab_hi ab_tab) h) (v0 : 0 ≤ v.toInt) (v1 : v.toInt ≤ 24) : ab_Inv (ab_hi ab_tab) (am_up h 164 73 (.int v)) := ac_p hI (l := 0) (u := 24) (by decide +kernel) v0 v1
theorem ac_g74 (hI : ab_Inv (ab_hi ab_tab) h) : ∃ v : Int32, h 164 74 = .int v ∧ (-1) ≤ v.toInt ∧ v.toInt ≤ 24 := ac_g hI ac_o (by decide +kernel) (by decide +kernel)
theorem ac_p74 (hI : ab_Inv (ab_hi ab_tab) h) (v0 : (-1) ≤ v.toInt) (v1 : v.toInt ≤ 24) : ab_Inv (ab_hi ab_tab) (am_up h 164 74 (.int v)) := ac_p hI (l := (-1)) (u := 24) (by decide +kernel) v0 v1
theorem ac_f75 (hI : ab_Inv (ab_hi ab_tab) h) : h 164 75 = .ref 198 := ab_ref1 hI ac_o (by decide +kernel) (by decide +kernel)
theorem ac_f76 (hI : ab_Inv (ab_hi ab_tab) h) : h 164 76 = .ref 199 := ab_ref1 hI ac_o (by decide +kernel) (by decide +kernel)
theorem ac_g77 (hI : ab_Inv (ab_hi ab_tab) h) : ∃ v : Int32, h 164 77 = .int v ∧ 0 ≤ v.toInt ∧ v.toInt ≤ 20 := ac_g hI ac_o (by decide +kernel) (by decide +kernel)
theorem ac_p77 (hI : ab_Inv (ab_hi ab_tab) h) (v0 : 0 ≤ v.toInt) (v1 : v.toInt ≤ 20) : ab_Inv (ab_hi ab_tab) (am_up h 164 77 (.int v)) := ac_p hI (l := 0) (u := 20) (by decide +kernel) v0 v1
theorem ac_f78 (hI : ab_Inv (ab_hi ab_tab) h) : h 164 78 = .ref 200 := ab_ref1 hI ac_o (by decide +kernel) (by decide +kernel)
theorem ac_g79 (hI : ab_Inv (ab_hi ab_tab) h) : ∃ v : Int32, h 164 79 = .int v ∧ 0 ≤ v.toInt ∧ v.toInt ≤ 1 := ac_g hI ac_o (by decide +kernel) (by decide +kernel)
theorem ac_p79 (hI : ab_Inv (ab_hi ab_tab) h) (v0 : 0 ≤ v.toInt) (v1 : v.toInt ≤ 1) : ab_Inv (ab_hi ab_tab) (am_up h 164 79 (.int v)) := ac_p hI (l := 0) (u := 1) (by decide +kernel) v0 v1
theorem ac_f80 (hI : ab_Inv (ab_hi ab_tab) h) : h 164 80 = .ref 201 := ab_ref1 hI ac_o (by decide +kernel) (by decide +kernel)
theorem ac_r165 (hI : ab_Inv (ab_hi ab_tab) h) (hq : q < 700) : ∃ v : Int32, h 165 q = .int v ∧ (-2147483648) ≤ v.toInt ∧ v.toInt ≤ 2147483647 := ac_g hI ac_k165 hq (ac_ar (by decide +kernel) (by decide +kernel) q)
theorem ac_w165 (hI : ab_Inv (ab_hi ab_tab) h) (v0 : (-2147483648) ≤ v.toInt) (v1 : v.toInt ≤ 2147483647) : ab_Inv (ab_hi ab_tab) (am_up h 165 q (.int v)) := ac_p hI (ac_ar (l := (-2147483648)) (u := 2147483647) (by decide +kernel) (by decide +kernel) q) v0 v1
theorem ac_r166 (hI : ab_Inv (ab_hi ab_tab) h) (hq : q < 101) : ∃ v : Int32, h 166 q = .int v ∧ 32 ≤ v.toInt ∧ v.toInt ≤ 122 := ac_g hI ac_k166 hq (ac_ar (by decide +kernel) (by decide +kernel) q)
theorem ac_w166 (hI : ab_Inv (ab_hi ab_tab) h) (v0 : 32 ≤ v.toInt) (v1 : v.toInt ≤ 122) : ab_Inv (ab_hi ab_tab) (am_up h 166 q (.int v)) := ac_p hI (ac_ar (l := 32) (u := 122) (by decide +kernel) (by decide +kernel) q) v0 v1
theorem ac_r167 (hI : ab_Inv (ab_hi ab_tab) h) (hq : q < 4) : ∃ v : Int32, h 167 q = .int v ∧ 0 ≤ v.toInt ∧ v.toInt ≤ 1 := ac_g hI ac_k167 hq (ac_ar (by decide +kernel) (by decide +kernel) q)
theorem ac_w167 (hI : ab_Inv (ab_hi ab_tab) h) (v0 : 0 ≤ v.toInt) (v1 : v.toInt ≤ 1) : ab_Inv (ab_hi ab_tab) (am_up h 167 q (.int v)) := ac_p hI (ac_ar (l := 0) (u := 1) (by decide +kernel) (by decide +kernel) q) v0 v1
theorem ac_r168 (hI : ab_Inv (ab_hi ab_tab) h) (hq : q < 12) : ∃ v : Int32, h 168 q = .int v ∧ 0 ≤ v.toInt ∧ v.toInt ≤ 99999 := ac_g hI ac_k168 hq (ac_ar (by decide +kernel) (by decide +kernel) q)
theorem ac_w168 (hI : ab_Inv (ab_hi ab_tab) h) (v0 : 0 ≤ v.toInt) (v1 : v.toInt ≤ 99999) : ab_Inv (ab_hi ab_tab) (am_up h 168 q (.int v)) := ac_p hI (ac_ar (l := 0) (u := 99999) (by decide +kernel) (by decide +kernel) q) v0 v1
theorem ac_r169 (hI : ab_Inv (ab_hi ab_tab) h) (hq : q < 8) : ∃ v : Int32, h 169 q = .int v ∧ (-2147483648) ≤ v.toInt ∧ v.toInt ≤ 2147483647 := ac_g hI ac_k169 hq (ac_ar (by decide +kernel) (by decide +kernel) q)
theorem ac_w169 (hI : ab_Inv (ab_hi ab_tab) h) (v0 : (-2147483648) ≤ v.toInt) (v1 : v.toInt ≤ 2147483647) : ab_Inv (ab_hi ab_tab) (am_up h 169 q (.int v)) := ac_p hI (ac_ar (l := (-2147483648)) (u := 2147483647) (by decide +kernel) (by decide +kernel) q) v0 v1
theorem ac_r170 (hI : ab_Inv (ab_hi ab_tab) h) (hq : q < 56) : ∃ v : Int32, h 170 q = .int v ∧ 0 ≤ v.toInt ∧ v.toInt ≤ 99 := ac_g hI ac_k170 hq (ac_ar (by decide +kernel) (by decide +kernel) q)
theorem ac_w170 (hI : ab_Inv (ab_hi ab_tab) h) (v0 : 0 ≤ v.toInt) (v1 : v.toInt ≤ 99) : ab_Inv (ab_hi ab_tab) (am_up h 170 q (.int v)) := ac_p hI (ac_ar (l := 0) (u := 99) (by decide +kernel) (by decide +kernel) q) v0 v1
theorem ac_r171 (hI : ab_Inv (ab_hi ab_tab) h) (hq : q < 16) : ∃ v : Int32, h 171 q = .int v ∧ 0 ≤ v.toInt ∧ v.toInt ≤ 3 := ac_g hI ac_k171 hq (ac_ar (by decide +kernel) (by decide +kernel) q)
theorem ac_w171 (hI : ab_Inv (ab_hi ab_tab) h) (v0 : 0 ≤ v.toInt) (v1 : v.toInt ≤ 3) : ab_Inv (ab_hi ab_tab) (am_up h 171 q (.int v)) := ac_p hI (ac_ar (l := 0) (u := 3) (by decide +kernel) (by decide +kernel) q) v0 v1
theorem ac_r172 (hI : ab_Inv (ab_hi ab_tab) h) (hq : q < 16) : ∃ v : Int32, h 172 q = .int v ∧ 0 ≤ v.toInt ∧ v.toInt ≤ 20 := ac_g hI ac_k172 hq (ac_ar (by decide +kernel) (by decide +kernel) q)
theorem ac_w172 (hI : ab_Inv (ab_hi ab_tab) h) (v0 : 0 ≤ v.toInt) (v1 : v.toInt ≤ 20) : ab_Inv (ab_hi ab_tab) (am_up h 172 q (.int v)) := ac_p hI (ac_ar (l := 0) (u := 20) (by decide +kernel) (by decide +kernel) q) v0 v1
theorem ac_r173 (hI : ab_Inv (ab_hi ab_tab) h) (hq : q < 12) : ∃ v : Int32, h 173 q = .int v ∧ 0 ≤ v.toInt ∧ v.toInt ≤ 99 := ac_g hI ac_k173 hq (ac_ar (by decide +kernel) (by decide +kernel) q)
theorem ac_w173 (hI : ab_Inv (ab_hi ab_tab) h) (v0 : 0 ≤ v.toInt) (v1 : v.toInt ≤ 99) : ab_Inv (ab_hi ab_tab) (am_up h 173 q (.int v)) := ac_p hI (ac_ar (l := 0) (u := 99) (by decide +kernel) (by decide +kernel) q) v0 v1
theorem ac_r174 (hI : ab_Inv (ab_hi ab_tab) h) (hq : q < 12) : ∃ v : Int32, h 174 q = .int v ∧ 0 ≤ v.toInt ∧ v.toInt ≤ 99 := ac_g hI ac_k174 hq (ac_ar (by decide +kernel) (by decide +kernel) q)
theorem ac_w174 (hI : ab_Inv (ab_hi ab_tab) h) (v0 : 0 ≤ v.toInt) (v1 : v.toInt ≤ 99) : ab_Inv (ab_hi ab_tab) (am_up h 174 q (.int v)) := ac_p hI (ac_ar (l := 0) (u := 99) (by decide +kernel) (by decide +kernel) q) v0 v1
theorem ac_r175 (hI : ab_Inv (ab_hi ab_tab) h) (hq : q < 6) : ∃ v : Int32, h 175 q = .int v ∧ (-2147483648) ≤ v.toInt ∧ v.toInt ≤ 2147483647 := ac_g hI ac_k175 hq (ac_ar (by decide +kernel) (by decide +kernel) q)
theorem ac_w175 (hI : ab_Inv (ab_hi ab_tab) h) (v0 : (-2147483648) ≤ v.toInt) (v1 : v.toInt ≤ 2147483647) : ab_Inv (ab_hi ab_tab) (am_up h 175 q (.int v)) := ac_p hI (ac_ar (l := (-2147483648)) (u := 2147483647) (by decide +kernel) (by decide +kernel) q) v0 v1
theorem ac_r176 (hI : ab_Inv (ab_hi ab_tab) h) (hq : q < 6) : ∃ v : Int32, h 176 q = .int v ∧ 0 ≤ v.toInt ∧ v.toInt ≤ 100 := ac_g hI ac_k176 hq (ac_ar (by decide +kernel) (by decide +kernel) q)
theorem ac_w176 (hI : ab_Inv (ab_hi ab_tab) h) (v0 : 0 ≤ v.toInt) (v1 : v.toInt ≤ 100) : ab_Inv (ab_hi ab_tab) (am_up h 176 q (.int v)) := ac_p hI (ac_ar (l := 0) (u := 100) (by decide +kernel) (by decide +kernel) q) v0 v1
theorem ac_r177 (hI : ab_Inv (ab_hi ab_tab) h) (hq : q < 6) : ∃ v : Int32, h 177 q = .int v ∧ 0 ≤ v.toInt ∧ v.toInt ≤ 99 := ac_g hI ac_k177 hq (ac_ar (by decide +kernel) (by decide +kernel) q)
theorem ac_w177 (hI : ab_Inv (ab_hi ab_tab) h) (v0 : 0 ≤ v.toInt) (v1 : v.toInt ≤ 99) : ab_Inv (ab_hi ab_tab) (am_up h 177 q (.int v)) := ac_p hI (ac_ar (l := 0) (u := 99) (by decide +kernel) (by decide +kernel) q) v0 v1
theorem ac_r178 (hI : ab_Inv (ab_hi ab_tab) h) (hq : q < 6) : ∃ v : Int32, h 178 q = .int v ∧ 0 ≤ v.toInt ∧ v.toInt ≤ 1 := ac_g hI ac_k178 hq (ac_ar (by decide +kernel) (by decide +kernel) q)
theorem ac_w178 (hI : ab_Inv (ab_hi ab_tab) h) (v0 : 0 ≤ v.toInt) (v1 : v.toInt ≤ 1) : ab_Inv (ab_hi ab_tab) (am_up h 178 q (.int v)) := ac_p hI (ac_ar (l := 0) (u := 1) (by decide +kernel) (by decide +kernel) q) v0 v1
theorem ac_r179 (hI : ab_Inv (ab_hi ab_tab) h) (hq : q < 6) : ∃ v : Int32, h 179 q = .int v ∧ 0 ≤ v.toInt ∧ v.toInt ≤ 64 := ac_g hI ac_k179 hq (ac_ar (by decide +kernel) (by decide +kernel) q)
theorem ac_w179 (hI : ab_Inv (ab_hi ab_tab) h) (v0 : 0 ≤ v.toInt) (v1 : v.toInt ≤ 64) : ab_Inv (ab_hi ab_tab) (am_up h 179 q (.int v)) := ac_p hI (ac_ar (l := 0) (u := 64) (by decide +kernel) (by decide +kernel) q) v0 v1
theorem ac_r180 (hI : ab_Inv (ab_hi ab_tab) h) (hq : q < 6) : ∃ v : Int32, h 180 q = .int v ∧ 0 ≤ v.toInt ∧ v.toInt ≤ 64 := ac_g hI ac_k180 hq (ac_ar (by decide +kernel) (by decide +kernel) q)
theorem ac_w180 (hI : ab_Inv (ab_hi ab_tab) h) (v0 : 0 ≤ v.toInt) (v1 : v.toInt ≤ 64) : ab_Inv (ab_hi ab_tab) (am_up h 180 q (.int v)) := ac_p hI (ac_ar (l := 0) (u := 64) (by decide +kernel) (by decide +kernel) q) v0 v1
theorem ac_r181 (hI : ab_Inv (ab_hi ab_tab) h) (hq : q < 128) : ∃ v : Int32, h 181 q = .int v ∧ 0 ≤ v.toInt ∧ v.toInt ≤ 14 := ac_g hI ac_k181 hq (ac_ar (by decide +kernel) (by decide +kernel) q)
theorem ac_w181 (hI : ab_Inv (ab_hi ab_tab) h) (v0 : 0 ≤ v.toInt) (v1 : v.toInt ≤ 14) : ab_Inv (ab_hi ab_tab) (am_up h 181 q (.int v)) := ac_p hI (ac_ar (l := 0) (u := 14) (by decide +kernel) (by decide +kernel) q) v0 v1
theorem ac_r182 (hI : ab_Inv (ab_hi ab_tab) h) (hq : q < 128) : ∃ v : Int32, h 182 q = .int v ∧ 0 ≤ v.toInt ∧ v.toInt ≤ 9999 := ac_g hI ac_k182 hq (ac_ar (by decide +kernel) (by decide +kernel) q)
theorem ac_w182 (hI : ab_Inv (ab_hi ab_tab) h) (v0 : 0 ≤ v.toInt) (v1 : v.toInt ≤ 9999) : ab_Inv (ab_hi ab_tab) (am_up h 182 q (.int v)) := ac_p hI (ac_ar (l := 0) (u := 9999) (by decide +kernel) (by decide +kernel) q) v0 v1
theorem ac_r183 (hI : ab_Inv (ab_hi ab_tab) h) (hq : q < 128) : ∃ v : Int32, h 183 q = .int v ∧ (-1) ≤ v.toInt ∧ v.toInt ≤ 63 := ac_g hI ac_k183 hq (ac_ar (by decide +kernel) (by decide +kernel) q)
theorem ac_w183 (hI : ab_Inv (ab_hi ab_tab) h) (v0 : (-1) ≤ v.toInt) (v1 : v.toInt ≤ 63) : ab_Inv (ab_hi ab_tab) (am_up h 183 q (.int v)) := ac_p hI (ac_ar (l := (-1)) (u := 63) (by decide +kernel) (by decide +kernel) q) v0 v1
theorem ac_r184 (hI : ab_Inv (ab_hi ab_tab) h) (hq : q < 96) : ∃ v : Int32, h 184 q = .int v ∧ 0 ≤ v.toInt ∧ v.toInt ≤ 14 := ac_g hI ac_k184 hq (ac_ar (by decide +kernel) (by decide +kernel) q)
theorem ac_w184 (hI : ab_Inv (ab_hi ab_tab) h) (v0 : 0 ≤ v.toInt) (v1 : v.toInt ≤ 14) : ab_Inv (ab_hi ab_tab) (am_up h 184 q (.int v)) := ac_p hI (ac_ar (l := 0) (u := 14) (by decide +kernel) (by decide +kernel) q) v0 v1
theorem ac_r185 (hI : ab_Inv (ab_hi ab_tab) h) (hq : q < 96) : ∃ v : Int32, h 185 q = .int v ∧ 0 ≤ v.toInt ∧ v.toInt ≤ 63 := ac_g hI ac_k185 hq (ac_ar (by decide +kernel) (by decide +kernel) q)
theorem ac_w185 (hI : ab_Inv (ab_hi ab_tab) h) (v0 : 0 ≤ v.toInt) (v1 : v.toInt ≤ 63) : ab_Inv (ab_hi ab_tab) (am_up h 185 q (.int v)) := ac_p hI (ac_ar (l := 0) (u := 63) (by decide +kernel) (by decide +kernel) q) v0 v1
theorem ac_r188 (hI : ab_Inv (ab_hi ab_tab) h) (hq : q < 4) : ∃ v : Int32, h 188 q = .int v ∧ (-2147483648) ≤ v.toInt ∧ v.toInt ≤ 2147483647 := ac_g hI ac_k188 hq (ac_ar (by decide +kernel) (by decide +kernel) q)
theorem ac_w188 (hI : ab_Inv (ab_hi ab_tab) h) (v0 : (-2147483648) ≤ v.toInt) (v1 : v.toInt ≤ 2147483647) : ab_Inv (ab_hi ab_tab) (am_up h 188 q (.int v)) := ac_p hI (ac_ar (l := (-2147483648)) (u := 2147483647) (by decide +kernel) (by decide +kernel) q) v0 v1
theorem ac_r189 (hI : ab_Inv (ab_hi ab_tab) h) (hq : q < 4) : ∃ v : Int32, h 189 q = .int v ∧ (-2147483648) ≤ v.toInt ∧ v.toInt ≤ 2147483647 := ac_g hI ac_k189 hq (ac_ar (by decide +kernel) (by decide +kernel) q)
theorem ac_w189 (hI : ab_Inv (ab_hi ab_tab) h) (v0 : (-2147483648) ≤ v.toInt) (v1 : v.toInt ≤ 2147483647) : ab_Inv (ab_hi ab_tab) (am_up h 189 q (.int v)) := ac_p hI (ac_ar (l := (-2147483648)) (u := 2147483647) (by decide +kernel) (by decide +kernel) q) v0 v1
theorem ac_r190 (hI : ab_Inv (ab_hi ab_tab) h) (hq : q < 4) : ∃ v : Int32, h 190 q = .int v ∧ (-2147483648) ≤ v.toInt ∧ v.toInt ≤ 2147483647 := ac_g hI ac_k190 hq (ac_ar (by decide +kernel) (by decide +kernel) q)
theorem ac_w190 (hI : ab_Inv (ab_hi ab_tab) h) (v0 : (-2147483648) ≤ v.toInt) (v1 : v.toInt ≤ 2147483647) : ab_Inv (ab_hi ab_tab) (am_up h 190 q (.int v)) := ac_p hI (ac_ar (l := (-2147483648)) (u := 2147483647) (by decide +kernel) (by decide +kernel) q) v0 v1
theorem ac_r191 (hI : ab_Inv (ab_hi ab_tab) h) (hq : q < 16) : ∃ v : Int32, h 191 q = .int v ∧ (-2147483648) ≤ v.toInt ∧ v.toInt ≤ 2147483647 := ac_g hI ac_k191 hq (ac_ar (by decide +kernel) (by decide +kernel) q)
theorem ac_w191 (hI : ab_Inv (ab_hi ab_tab) h) (v0 : (-2147483648) ≤ v.toInt) (v1 : v.toInt ≤ 2147483647) : ab_Inv (ab_hi ab_tab) (am_up h 191 q (.int v)) := ac_p hI (ac_ar (l := (-2147483648)) (u := 2147483647) (by decide +kernel) (by decide +kernel) q) v0 v1
theorem ac_r192 (hI : ab_Inv (ab_hi ab_tab) h) (hq : q < 16) : ∃ v : Int32, h 192 q = .int v ∧ (-2147483648) ≤ v.toInt ∧ v.toInt ≤ 2147483647 := ac_g hI ac_k192 hq (ac_ar (by decide +kernel) (by decide +kernel) q)
theorem ac_w192 (hI : ab_Inv (ab_hi ab_tab) h) (v0 : (-2147483648) ≤ v.toInt) (v1 : v.toInt ≤ 2147483647) : ab_Inv (ab_hi ab_tab) (am_up h 192 q (.int v)) := ac_p hI (ac_ar (l := (-2147483648)) (u := 2147483647) (by decide +kernel) (by decide +kernel) q) v0 v1
theorem ac_r193 (hI : ab_Inv (ab_hi ab_tab) h) (hq : q < 16) : ∃ v : Int32, h 193 q = .int v ∧ (-2147483648) ≤ v.toInt ∧ v.toInt ≤ 2147483647 := ac_g hI ac_k193 hq (ac_ar (by decide +kernel) (by decide +kernel) q)
theorem ac_w193 (hI : ab_Inv (ab_hi ab_tab) h) (v0 : (-2147483648) ≤ v.toInt) (v1 : v.toInt ≤ 2147483647) : ab_Inv (ab_hi ab_tab) (am_up h 193 q (.int v)) := ac_p hI (ac_ar (l := (-2147483648)) (u := 2147483647) (by decide +kernel) (by decide +kernel) q) v0 v1
theorem ac_r194 (hI : ab_Inv (ab_hi ab_tab) h) (hq : q < 4) : ∃ v : Int32, h 194 q = .int v ∧ (-99999) ≤ v.toInt ∧ v.toInt ≤ 99999 := ac_g hI ac_k194 hq (ac_ar (by decide +kernel) (by decide +kernel) q)
theorem ac_w194 (hI : ab_Inv (ab_hi ab_tab) h) (v0 : (-99999) ≤ v.toInt) (v1 : v.toInt ≤ 99999) : ab_Inv (ab_hi ab_tab) (am_up h 194 q (.int v)) := ac_p hI (ac_ar (l := (-99999)) (u := 99999) (by decide +kernel) (by decide +kernel) q) v0 v1
theorem ac_r195 (hI : ab_Inv (ab_hi ab_tab) h) (hq : q < 4) : ∃ v : Int32, h 195 q = .int v ∧ (-2147483648) ≤ v.toInt ∧ v.toInt ≤ 2147483647 := ac_g hI ac_k195 hq (ac_ar (by decide +kernel) (by decide +kernel) q)
theorem ac_w195 (hI : ab_Inv (ab_hi ab_tab) h) (v0 : (-2147483648) ≤ v.toInt) (v1 : v.toInt ≤ 2147483647) : ab_Inv (ab_hi ab_tab) (am_up h 195 q (.int v)) := ac_p hI (ac_ar (l := (-2147483648)) (u := 2147483647) (by decide +kernel) (by decide +kernel) q) v0 v1
theorem ac_r197 (hI : ab_Inv (ab_hi ab_tab) h) (hq : q < 6) : ∃ v : Int32, h 197 q = .int v ∧ 0 ≤ v.toInt ∧ v.toInt ≤ 3 := ac_g hI ac_k197 hq (ac_ar (by decide +kernel) (by decide +kernel) q)
theorem ac_w197 (hI : ab_Inv (ab_hi ab_tab) h) (v0 : 0 ≤ v.toInt) (v1 : v.toInt ≤ 3) : ab_Inv (ab_hi ab_tab) (am_up h 197 q (.int v)) := ac_p hI (ac_ar (l := 0) (u := 3) (by decide +kernel) (by decide +kernel) q) v0 v1
theorem ac_r198 (hI : ab_Inv (ab_hi ab_tab) h) (hq : q < 96) : ∃ v : Int32, h 198 q = .int v ∧ (-2147483648) ≤ v.toInt ∧ v.toInt ≤ 2147483647 := ac_g hI ac_k198 hq (ac_ar (by decide +kernel) (by decide +kernel) q)
theorem ac_w198 (hI : ab_Inv (ab_hi ab_tab) h) (v0 : (-2147483648) ≤ v.toInt) (v1 : v.toInt ≤ 2147483647) : ab_Inv (ab_hi ab_tab) (am_up h 198 q (.int v)) := ac_p hI (ac_ar (l := (-2147483648)) (u := 2147483647) (by decide +kernel) (by decide +kernel) q) v0 v1
theorem ac_r199 (hI : ab_Inv (ab_hi ab_tab) h) (hq : q < 24) : ∃ v : Int32, h 199 q = .int v ∧ 0 ≤ v.toInt ∧ v.toInt ≤ 1 := ac_g hI ac_k199 hq (ac_ar (by decide +kernel) (by decide +kernel) q)
theorem ac_w199 (hI : ab_Inv (ab_hi ab_tab) h) (v0 : 0 ≤ v.toInt) (v1 : v.toInt ≤ 1) : ab_Inv (ab_hi ab_tab) (am_up h 199 q (.int v)) := ac_p hI (ac_ar (l := 0) (u := 1) (by decide +kernel) (by decide +kernel) q) v0 v1
theorem ac_r200 (hI : ab_Inv (ab_hi ab_tab) h) (hq : q < 340) : ∃ v : Int32, h 200 q = .int v ∧ (-2147483648) ≤ v.toInt ∧ v.toInt ≤ 2147483647 := ac_g hI ac_k200 hq (ac_ar (by decide +kernel) (by decide +kernel) q)
theorem ac_w200 (hI : ab_Inv (ab_hi ab_tab) h) (v0 : (-2147483648) ≤ v.toInt) (v1 : v.toInt ≤ 2147483647) : ab_Inv (ab_hi ab_tab) (am_up h 200 q (.int v)) := ac_p hI (ac_ar (l := (-2147483648)) (u := 2147483647) (by decide +kernel) (by decide +kernel) q) v0 v1
theorem ac_r201 (hI : ab_Inv (ab_hi ab_tab) h) (hq : q < 17) : ∃ v : Int32, h 201 q = .int v ∧ (-2147483648) ≤ v.toInt ∧ v.toInt ≤ 2147483647 := ac_g hI ac_k201 hq (ac_ar (by decide +kernel) (by decide +kernel) q)
theorem ac_w201 (hI : ab_Inv (ab_hi ab_tab) h) (v0 : (-2147483648) ≤ v.toInt) (v1 : v.toInt ≤ 2147483647) : ab_Inv (ab_hi ab_tab) (am_up h 201 q (.int v)) := ac_p hI (ac_ar (l := (-2147483648)) (u := 2147483647) (by decide +kernel) (by decide +kernel) q) v0 v1
end ACF
