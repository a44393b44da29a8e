/-! ===== A LAW'S VALUES IN BOTH READERS (wip/r/gen99qp.py) ===== -/
theorem ab_Fr_sub {md md' : List (Nat × Nat)} {h h' : am_H} (hs_z : ∀ q ∈ md, q ∈ md') (a : ab_Fr md h h') : ab_Fr md' h h' := by
  intro o k e
  refine a o k ?_
  cases q : ab_in md o k with
  | false => rfl
  | true =>
    obtain ⟨w, hw_z, hb_z⟩ := List.any_eq_true.mp q
    have : ab_in md' o k = true := List.any_eq_true.mpr ⟨w, hs_z w hw_z, hb_z⟩
    rw [this] at e
    cases e
abbrev rz_MM : List (Nat × Nat) := [(164, 42), (164, 43), (164, 44), (164, 45), (164, 46), (164, 47), (164, 22), (181, 0), (182, 0), (183, 0), (184, 0), (185, 0)]
def rs (d : Nat) (h g : am_H) : Prop := ∃ np op : Int32, rg_v h 44 13 = np ∧ rg_v g 164 41 = np ∧ 0 ≤ np.toInt ∧ rg_v h 44 14 = op ∧ rg_v g 164 43 = op ∧ 0 ≤ op.toInt ∧ op.toInt ≤ 8 ∧ np.toInt ≤ (rg_v h (d + 9) 0).toInt + op.toInt ∧ (∀ i : Nat, (i : Int) < np.toInt → rs_o (rg_v h 47 i) (rg_v g 184 i)) ∧ (rs_cnt g np.toNatClampNeg : Int) = op.toInt
/-- what is wanted next, in both -/
def rs_wt (w : Int32) (g : am_H) : Prop := (w = 0 ∧ rg_v g 164 45 = 1 ∧ rg_v g 164 46 = 1) ∨ (w = 1 ∧ rg_v g 164 45 = 1 ∧ rg_v g 164 46 = 0) ∨ (w = 2 ∧ rg_v g 164 45 = 0)
theorem rs_cnt_up {g : am_H} {q : Nat} {v : Int32} : ∀ n, n ≤ q → rs_cnt (am_up g 184 q (.int v)) n = rs_cnt g n
  | 0, _ => rfl
  | n + 1, hn_z => by
    show rs_cnt (am_up g 184 q (.int v)) n + (if rg_v (am_up g 184 q (.int v)) 184 n = 0 then 1 else 0) = rs_cnt g n + (if rg_v g 184 n = 0 then 1 else 0)
    rw [rs_cnt_up n (by omega), rg_v_other (by omega)]
abbrev rz_MC2 : List (Nat × Nat) := [(44, 8), (44, 14), (44, 15), (47, 0), (11, 1), (11, 2), (12, 0), (13, 0)]
theorem rz_q02 {T : Nat → Int32} {S x : Int32} {h h' g g' : am_H} (R : rq0_z T S x 2 h g) (FC : ab_Fr rz_MC2 h h') (FM : ab_Fr rz_MM g g') : rq0_z T S x 2 h' g' := by
  obtain ⟨⟨c1_z, c2_z, c3_z, c4_z, c5_z, c6_z, c7_z, c8_z⟩, ⟨m2_z, m3_z, m4_z, m5_z, m6_z, m7_z, m8_z⟩, R3, R4⟩ := R
  exact ⟨⟨(FC 44 4 (by decide)).trans c1_z, (rg_v_fr FC (by decide)).trans c2_z, (rg_v_fr FC (by decide)).trans c3_z, c4_z, c5_z, c6_z, fun k hk_z => (rg_v_fr FC (rg_v_in (by decide) k)).trans (c7_z k hk_z), fun k hk_z => (rg_v_fr FC (rg_v_in (by decide) k)).trans (c8_z k hk_z)⟩, ⟨(rg_v_fr FM (by decide)).trans m2_z, (rg_v_fr FM (by decide)).trans m3_z, m4_z, m5_z, m6_z, fun k hk_z => (rg_v_fr FM (rg_v_in (by decide) k)).trans (m7_z k hk_z), fun k hk_z => (rg_v_fr FM (rg_v_in (by decide) k)).trans (m8_z k hk_z)⟩, (FC 44 6 (by decide)).trans R3, (rg_v_fr FC (by decide)).trans R4⟩
theorem rz_p2 {h h' g g' : am_H} (A : rp 2 h g) (FC : ab_Fr rz_MC2 h h') (FM : ab_Fr rz_MM g g') (k1_z : rg_v h' 11 0 = rg_v g' 164 44) (k2_z : 0 ≤ (rg_v h' 11 0).toInt) (k3_z : (rg_v h' 11 0).toInt ≤ 64) : rp 2 h' g' := by
  have eC : ∀ o k, (rz_MC2.all (fun q => !(Nat.beq q.1 o)) = true) → rg_v h' o k = rg_v h o k := fun o k e => rg_v_fr FC (rg_v_in e k)
  have eM : ∀ o k, (rz_MM.all (fun q => !(Nat.beq q.1 o)) = true) → rg_v g' o k = rg_v g o k := fun o k e => rg_v_fr FM (rg_v_in e k)
  obtain ⟨⟨a1_z, a2_z, a3_z, a4_z, a5_z, a6_z⟩, ⟨n1_z, n2_z, n3_z⟩, ⟨t1_z, t2_z, t3_z⟩, ⟨l1_z, l2_z, l3_z⟩, ⟨r1_z, r2_z, r3_z⟩, -, ⟨C0, C1, C2, C3⟩, D, E, G⟩ := A
  have ed_z : ∀ k, rg_v h' 2 k = rg_v h 2 k := fun k => eC 2 k (by decide)
  have e8_z : ∀ k, rg_v g' 168 k = rg_v g 168 k := fun k => eM 168 k (by decide)
  have hC0 : rp_C 2 h' g' 0 := by
    intro hb_z k hk_z
    rw [ed_z] at hb_z
    unfold rp_bm
    rw [eC (2 + 17 + 0) k (by decide), eM 169 _ (by decide), eM 170 _ (by decide)]
    exact C0 hb_z k hk_z
  have hC1 : rp_C 2 h' g' 1 := by
    intro hb_z k hk_z
    rw [ed_z] at hb_z
    unfold rp_bm
    rw [eC (2 + 17 + 1) k (by decide), eM 169 _ (by decide), eM 170 _ (by decide)]
    exact C1 hb_z k hk_z
  have hC2 : rp_C 2 h' g' 2 := by
    intro hb_z k hk_z
    rw [ed_z] at hb_z
    unfold rp_bm
    rw [eC (2 + 17 + 2) k (by decide), eM 169 _ (by decide), eM 170 _ (by decide)]
    exact C2 hb_z k hk_z
  have hC3 : rp_C 2 h' g' 3 := by
    intro hb_z k hk_z
    rw [ed_z] at hb_z
    unfold rp_bm
    rw [eC (2 + 17 + 3) k (by decide), eM 169 _ (by decide), eM 170 _ (by decide)]
    exact C3 hb_z k hk_z
  refine ⟨⟨by rw [ed_z, e8_z]; exact a1_z, by rw [ed_z, e8_z]; exact a2_z, by rw [ed_z, e8_z]; exact a3_z, by rw [ed_z, e8_z]; exact a4_z, by rw [ed_z, e8_z]; exact a5_z, by rw [ed_z, e8_z]; exact a6_z.1, (rg_v_fr FC (by decide)).trans a6_z.2.1, (rg_v_fr FM (by decide)).trans a6_z.2.2.1, (rg_v_fr FM (by decide)).trans a6_z.2.2.2⟩, ⟨by rw [ed_z, rg_v_fr FM (by decide)]; exact n1_z, by rw [ed_z]; exact n2_z, by rw [ed_z]; exact n3_z⟩, ⟨by rw [ed_z, rg_v_fr FM (by decide)]; exact t1_z, by rw [ed_z]; exact t2_z, by rw [ed_z]; exact t3_z⟩, ⟨by rw [ed_z, rg_v_fr FM (by decide)]; exact l1_z, by rw [ed_z]; exact l2_z, by rw [ed_z]; exact l3_z⟩, ⟨by rw [ed_z, rg_v_fr FM (by decide)]; exact r1_z, by rw [ed_z]; exact r2_z, by rw [ed_z]; exact r3_z⟩, ⟨k1_z, k2_z, k3_z⟩, ⟨hC0, hC1, hC2, hC3⟩, ?_, ?_, ?_⟩
  · intro t ht
    rw [ed_z] at ht
    rw [eC (2 + 2) t (by decide), eC (2 + 3) t (by decide), eM 171 _ (by decide), eM 172 _ (by decide)]
    exact D t ht
  · intro t ht
    rw [ed_z] at ht
    rw [eC (2 + 4) t (by decide), eC (2 + 5) t (by decide), eM 173 _ (by decide), eM 174 _ (by decide)]
    exact E t ht
  · intro t ht
    rw [ed_z] at ht
    rw [eC (2 + 6) t (by decide), eC (2 + 7) t (by decide), eC (2 + 8) t (by decide), eM 175 _ (by decide), eM 176 _ (by decide), eM 177 _ (by decide)]
    exact G t ht
theorem rz_t2 {h h' g g' : am_H} (B : rp_t h g) (FC : ab_Fr (rz_MC2.drop 1) h h') (FM : ab_Fr rz_MM g g') : rp_t h' g' := by
  obtain ⟨b0_z, b1_z, b2_z, b3_z, b4_z, b5_z, b6_z, t, o0_z, o1_z, o2_z, o3_z, o4_z, o5_z, o6_z⟩ := B
  exact ⟨b0_z, b1_z, b2_z, b3_z, b4_z, b5_z, b6_z, (rg_v_fr FC (by decide)).trans t, (rg_v_fr FM (by decide)).trans o0_z, (rg_v_fr FM (by decide)).trans o1_z, (rg_v_fr FM (by decide)).trans o2_z, (rg_v_fr FM (by decide)).trans o3_z, (rg_v_fr FM (by decide)).trans o4_z, (rg_v_fr FM (by decide)).trans o5_z, (rg_v_fr FM (by decide)).trans o6_z⟩
abbrev rz_MC23 : List (Nat × Nat) := [(44, 8), (44, 14), (44, 15), (47, 0), (32, 1), (32, 2), (33, 0), (34, 0)]
theorem rz_q023 {T : Nat → Int32} {S x : Int32} {h h' g g' : am_H} (R : rq0_z T S x 23 h g) (FC : ab_Fr rz_MC23 h h') (FM : ab_Fr rz_MM g g') : rq0_z T S x 23 h' g' := by
  obtain ⟨⟨c1_z, c2_z, c3_z, c4_z, c5_z, c6_z, c7_z, c8_z⟩, ⟨m2_z, m3_z, m4_z, m5_z, m6_z, m7_z, m8_z⟩, R3, R4⟩ := R
  exact ⟨⟨(FC 44 4 (by decide)).trans c1_z, (rg_v_fr FC (by decide)).trans c2_z, (rg_v_fr FC (by decide)).trans c3_z, c4_z, c5_z, c6_z, fun k hk_z => (rg_v_fr FC (rg_v_in (by decide) k)).trans (c7_z k hk_z), fun k hk_z => (rg_v_fr FC (rg_v_in (by decide) k)).trans (c8_z k hk_z)⟩, ⟨(rg_v_fr FM (by decide)).trans m2_z, (rg_v_fr FM (by decide)).trans m3_z, m4_z, m5_z, m6_z, fun k hk_z => (rg_v_fr FM (rg_v_in (by decide) k)).trans (m7_z k hk_z), fun k hk_z => (rg_v_fr FM (rg_v_in (by decide) k)).trans (m8_z k hk_z)⟩, (FC 44 6 (by decide)).trans R3, (rg_v_fr FC (by decide)).trans R4⟩
theorem rz_p23 {h h' g g' : am_H} (A : rp 23 h g) (FC : ab_Fr rz_MC23 h h') (FM : ab_Fr rz_MM g g') (k1_z : rg_v h' 32 0 = rg_v g' 164 44) (k2_z : 0 ≤ (rg_v h' 32 0).toInt) (k3_z : (rg_v h' 32 0).toInt ≤ 64) : rp 23 h' g' := by
  have eC : ∀ o k, (rz_MC23.all (fun q => !(Nat.beq q.1 o)) = true) → rg_v h' o k = rg_v h o k := fun o k e => rg_v_fr FC (rg_v_in e k)
  have eM : ∀ o k, (rz_MM.all (fun q => !(Nat.beq q.1 o)) = true) → rg_v g' o k = rg_v g o k := fun o k e => rg_v_fr FM (rg_v_in e k)
  obtain ⟨⟨a1_z, a2_z, a3_z, a4_z, a5_z, a6_z⟩, ⟨n1_z, n2_z, n3_z⟩, ⟨t1_z, t2_z, t3_z⟩, ⟨l1_z, l2_z, l3_z⟩, ⟨r1_z, r2_z, r3_z⟩, -, ⟨C0, C1, C2, C3⟩, D, E, G⟩ := A
  have ed_z : ∀ k, rg_v h' 23 k = rg_v h 23 k := fun k => eC 23 k (by decide)
  have e8_z : ∀ k, rg_v g' 168 k = rg_v g 168 k := fun k => eM 168 k (by decide)
  have hC0 : rp_C 23 h' g' 0 := by
    intro hb_z k hk_z
    rw [ed_z] at hb_z
    unfold rp_bm
    rw [eC (23 + 17 + 0) k (by decide), eM 169 _ (by decide), eM 170 _ (by decide)]
    exact C0 hb_z k hk_z
  have hC1 : rp_C 23 h' g' 1 := by
    intro hb_z k hk_z
    rw [ed_z] at hb_z
    unfold rp_bm
    rw [eC (23 + 17 + 1) k (by decide), eM 169 _ (by decide), eM 170 _ (by decide)]
    exact C1 hb_z k hk_z
  have hC2 : rp_C 23 h' g' 2 := by
    intro hb_z k hk_z
    rw [ed_z] at hb_z
    unfold rp_bm
    rw [eC (23 + 17 + 2) k (by decide), eM 169 _ (by decide), eM 170 _ (by decide)]
    exact C2 hb_z k hk_z
  have hC3 : rp_C 23 h' g' 3 := by
    intro hb_z k hk_z
    rw [ed_z] at hb_z
    unfold rp_bm
    rw [eC (23 + 17 + 3) k (by decide), eM 169 _ (by decide), eM 170 _ (by decide)]
    exact C3 hb_z k hk_z
  refine ⟨⟨by rw [ed_z, e8_z]; exact a1_z, by rw [ed_z, e8_z]; exact a2_z, by rw [ed_z, e8_z]; exact a3_z, by rw [ed_z, e8_z]; exact a4_z, by rw [ed_z, e8_z]; exact a5_z, by rw [ed_z, e8_z]; exact a6_z.1, (rg_v_fr FC (by decide)).trans a6_z.2.1, (rg_v_fr FM (by decide)).trans a6_z.2.2.1, (rg_v_fr FM (by decide)).trans a6_z.2.2.2⟩, ⟨by rw [ed_z, rg_v_fr FM (by decide)]; exact n1_z, by rw [ed_z]; exact n2_z, by rw [ed_z]; exact n3_z⟩, ⟨by rw [ed_z, rg_v_fr FM (by decide)]; exact t1_z, by rw [ed_z]; exact t2_z, by rw [ed_z]; exact t3_z⟩, ⟨by rw [ed_z, rg_v_fr FM (by decide)]; exact l1_z, by rw [ed_z]; exact l2_z, by rw [ed_z]; exact l3_z⟩, ⟨by rw [ed_z, rg_v_fr FM (by decide)]; exact r1_z, by rw [ed_z]; exact r2_z, by rw [ed_z]; exact r3_z⟩, ⟨k1_z, k2_z, k3_z⟩, ⟨hC0, hC1, hC2, hC3⟩, ?_, ?_, ?_⟩
  · intro t ht
    rw [ed_z] at ht
    rw [eC (23 + 2) t (by decide), eC (23 + 3) t (by decide), eM 171 _ (by decide), eM 172 _ (by decide)]
    exact D t ht
  · intro t ht
    rw [ed_z] at ht
    rw [eC (23 + 4) t (by decide), eC (23 + 5) t (by decide), eM 173 _ (by decide), eM 174 _ (by decide)]
    exact E t ht
  · intro t ht
    rw [ed_z] at ht
    rw [eC (23 + 6) t (by decide), eC (23 + 7) t (by decide), eC (23 + 8) t (by decide), eM 175 _ (by decide), eM 176 _ (by decide), eM 177 _ (by decide)]
    exact G t ht
theorem rz_t23 {h h' g g' : am_H} (B : rp_t h g) (FC : ab_Fr (rz_MC23.drop 1) h h') (FM : ab_Fr rz_MM g g') : rp_t h' g' := by
  obtain ⟨b0_z, b1_z, b2_z, b3_z, b4_z, b5_z, b6_z, t, o0_z, o1_z, o2_z, o3_z, o4_z, o5_z, o6_z⟩ := B
  exact ⟨b0_z, b1_z, b2_z, b3_z, b4_z, b5_z, b6_z, (rg_v_fr FC (by decide)).trans t, (rg_v_fr FM (by decide)).trans o0_z, (rg_v_fr FM (by decide)).trans o1_z, (rg_v_fr FM (by decide)).trans o2_z, (rg_v_fr FM (by decide)).trans o3_z, (rg_v_fr FM (by decide)).trans o4_z, (rg_v_fr FM (by decide)).trans o5_z, (rg_v_fr FM (by decide)).trans o6_z⟩
theorem rp_mkT {n : Nat} {h h' : am_H} {r : Option Value} {c : Int32} (e1_z : rg_v h 44 10 = 5) (e2_z : rg_v h 44 11 = c) (hc_z : rn n am_m45 0 (lv_args 0 [.ref 44, .int c]) [] h r h') : r = some (.int 1) ∧ h = h' := by
  rcases rp_isMark hc_z with ⟨q, -⟩ | ⟨-, q, -⟩ | ⟨-, -, q1_z, q2_z⟩
  · exact absurd e1_z q.1
  · exact absurd e2_z q.1
  · exact ⟨q1_z, q2_z.symm⟩
theorem rp_mkN {n : Nat} {h h' : am_H} {r : Option Value} {c : Int32} (hn_z : ¬ (rg_v h 44 10 = 5 ∧ rg_v h 44 11 = c)) (hc_z : rn n am_m45 0 (lv_args 0 [.ref 44, .int c]) [] h r h') : r = some (.int 0) ∧ h = h' := by
  rcases rp_isMark hc_z with ⟨-, q1_z, q2_z⟩ | ⟨-, -, q1_z, q2_z⟩ | ⟨p1_z, p2_z, -⟩
  · exact ⟨q1_z, q2_z.symm⟩
  · exact ⟨q1_z, q2_z.symm⟩
  · exact absurd ⟨p1_z.1, p2_z.1⟩ hn_z
theorem rp_sgT {n : Nat} {h h' : am_H} {r : Option Value} {c : Int32} (e1_z : rg_v h 164 8 = 4) (e2_z : rg_v h 164 9 = c) (hc_z : rn n am_m171 0 (lv_args 0 [.ref 164, .int c]) [] h r h') : r = some (.int 1) ∧ h = h' := by
  rcases rp_isSign hc_z with ⟨q, -⟩ | ⟨-, q, -⟩ | ⟨-, -, q1_z, q2_z⟩
  · exact absurd e1_z q.1
  · exact absurd e2_z q.1
  · exact ⟨q1_z, q2_z.symm⟩
theorem rp_sgN {n : Nat} {h h' : am_H} {r : Option Value} {c : Int32} (hn_z : ¬ (rg_v h 164 8 = 4 ∧ rg_v h 164 9 = c)) (hc_z : rn n am_m171 0 (lv_args 0 [.ref 164, .int c]) [] h r h') : r = some (.int 0) ∧ h = h' := by
  rcases rp_isSign hc_z with ⟨-, q1_z, q2_z⟩ | ⟨-, -, q1_z, q2_z⟩ | ⟨p1_z, p2_z, -⟩
  · exact ⟨q1_z, q2_z.symm⟩
  · exact ⟨q1_z, q2_z.symm⟩
  · exact absurd ⟨p1_z.1, p2_z.1⟩ hn_z
theorem rp_kyT {n : Nat} {h h' : am_H} {r : Option Value} {c : Int32} (e1_z : rg_v h 164 8 = 1) (e2_z : rg_v h 164 9 = c) (hc_z : rn n am_m174 0 (lv_args 0 [.ref 164, .int c]) [] h r h') : r = some (.int 1) ∧ h = h' := by
  rcases rp_isKey hc_z with ⟨q, -⟩ | ⟨-, q, -⟩ | ⟨-, -, q1_z, q2_z⟩
  · exact absurd e1_z q.1
  · exact absurd e2_z q.1
  · exact ⟨q1_z, q2_z.symm⟩
theorem rp_kyN {n : Nat} {h h' : am_H} {r : Option Value} {c : Int32} (hn_z : ¬ (rg_v h 164 8 = 1 ∧ rg_v h 164 9 = c)) (hc_z : rn n am_m174 0 (lv_args 0 [.ref 164, .int c]) [] h r h') : r = some (.int 0) ∧ h = h' := by
  rcases rp_isKey hc_z with ⟨-, q1_z, q2_z⟩ | ⟨-, -, q1_z, q2_z⟩ | ⟨p1_z, p2_z, -⟩
  · exact ⟨q1_z, q2_z.symm⟩
  · exact ⟨q1_z, q2_z.symm⟩
  · exact absurd ⟨p1_z.1, p2_z.1⟩ hn_z
