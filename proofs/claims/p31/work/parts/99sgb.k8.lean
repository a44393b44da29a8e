/-! ===== THE STATE ALIKE IN BOTH, ON (wip/r/gen99sg.py) ===== -/
/-- a state in its bounds -/
def okF (f : Nat → Int32) : Prop := (0 ≤ (f 1).toInt ∧ (f 1).toInt ≤ 99999) ∧ (0 ≤ (f 3).toInt ∧ (f 3).toInt ≤ 99) ∧ ∀ k, k < 4 → (0 ≤ (f (13 + k)).toInt ∧ (f (13 + k)).toInt ≤ (f 1).toInt) ∧ (0 ≤ (f (5 + k)).toInt ∧ (f (5 + k)).toInt ≤ 20)
/-- a state of the class and one of the model, alike from number lo on -/
def sRec (lo : Nat) (f m : Nat → Int32) : Prop := (∀ j, lo ≤ j → j < 17 → f j = m j) ∧ okF f
/-- the place of the j-th of sz states, the next one's place being nx -/
def hI (nx sz : Int) (j : Nat) : Nat := 62 + 4 * ((nx + 20 - sz + j) % 20).toNat
def hR (lo : Nat) (h g : am_H) : Prop := (0 ≤ (rg_v h 60 1).toInt ∧ (rg_v h 60 1).toInt < 20) ∧ (0 ≤ (rg_v h 60 2).toInt ∧ (rg_v h 60 2).toInt ≤ 20) ∧ rg_v h 60 2 = rg_v g 164 77 ∧ ∀ j : Nat, (j : Int) < (rg_v h 60 2).toInt → sRec lo (cS_z h (hI (rg_v h 60 1).toInt (rg_v h 60 2).toInt j)) (fun q => rg_v g 200 (17 * j + q))
def iR (lo : Nat) (h g : am_H) : Prop := rg_v h 0 8 = rg_v g 164 79 ∧ (¬ rg_v h 0 8 = 0 → sRec lo (cS_z h 56) (fun q => rg_v g 201 q))
def St (lo : Nat) (h g : am_H) : Prop := sRec lo (cS_z h 48) (mS g 0) ∧ hR lo h g ∧ iR lo h g
theorem okF_e {f f' : Nat → Int32} (e : ∀ j, 1 ≤ j → j < 17 → f' j = f j) (o : okF f) : okF f' := by
  obtain ⟨o1_z, o2_z, o3_z⟩ := o
  unfold okF
  rw [e 1 (by decide) (by decide), e 3 (by decide) (by decide)]
  refine ⟨o1_z, o2_z, fun k hk_z => ?_⟩
  rw [e (13 + k) (by omega) (by omega), e (5 + k) (by omega) (by omega)]
  exact o3_z k hk_z
theorem sRec_e {lo : Nat} {f m f' m' : Nat → Int32} (l1_z : lo ≤ 1) (e : ∀ j, lo ≤ j → j < 17 → f' j = f j) (d : ∀ j, lo ≤ j → j < 17 → m' j = m j) (S : sRec lo f m) : sRec lo f' m' := ⟨fun j a c => (e j a c).trans ((S.1 j a c).trans (d j a c).symm), okF_e (fun j a c => e j (by omega) c) S.2⟩
/-- the class's places of its state -/
def cQ (o k : Nat) : Prop := (48 ≤ o ∧ o ≤ 51) ∨ (56 ≤ o ∧ o ≤ 59) ∨ (o = 0 ∧ k = 8) ∨ (o = 60 ∧ (k = 1 ∨ k = 2)) ∨ (62 ≤ o ∧ o ≤ 141)
theorem cS_v {h h' : am_H} {a : Nat} (e : ∀ o k, a ≤ o → o ≤ a + 3 → rg_v h' o k = rg_v h o k) (j : Nat) : cS_z h' a j = cS_z h a j := by
  unfold cS_z
  rw [e a j (by omega) (by omega), e (a + 1) _ (by omega) (by omega), e (a + 2) _ (by omega) (by omega), e (a + 3) _ (by omega) (by omega)]
theorem mS_v {g g' : am_H} (e : ∀ o q, mQ o q → rg_v g' o q = rg_v g o q) {j : Nat} (hj_z : j < 17) : mS g' 0 j = mS g 0 j := by
  match j, hj_z with
  | 0, _ => exact e 188 0 (by unfold mQ; omega)
  | 1, _ => exact e 189 0 (by unfold mQ; omega)
  | 2, _ => exact e 190 0 (by unfold mQ; omega)
  | 3, _ => exact e 194 0 (by unfold mQ; omega)
  | 4, _ => exact e 164 57 (by unfold mQ; omega)
  | j + 5, hj_z =>
    show (if j < 4 then rg_v g' 191 (4 * 0 + j) else if j < 8 then rg_v g' 192 (4 * 0 + (j - 4)) else rg_v g' 193 (4 * 0 + (j - 8))) = (if j < 4 then rg_v g 191 (4 * 0 + j) else if j < 8 then rg_v g 192 (4 * 0 + (j - 4)) else rg_v g 193 (4 * 0 + (j - 8)))
    by_cases c1_z : j < 4
    · rw [if_pos c1_z, if_pos c1_z, e 191 _ (by unfold mQ; omega)]
    · rw [if_neg c1_z, if_neg c1_z]
      by_cases c2_z : j < 8
      · rw [if_pos c2_z, if_pos c2_z, e 192 _ (by unfold mQ; omega)]
      · rw [if_neg c2_z, if_neg c2_z, e 193 _ (by unfold mQ; omega)]
theorem hI_r {nx sz : Int} {j : Nat} : 62 ≤ hI nx sz j ∧ hI nx sz j + 3 ≤ 141 := by
  unfold hI
  omega
theorem St_e {lo : Nat} {h h' g g' : am_H} (l1_z : lo ≤ 1) (c : ∀ o k, cQ o k → rg_v h' o k = rg_v h o k) (m : ∀ o q, mQ o q → rg_v g' o q = rg_v g o q) (S : St lo h g) : St lo h' g' := by
  obtain ⟨s1_z, ⟨h1_z, h2_z, h3_z, h4_z⟩, i1_z, i2_z⟩ := S
  refine ⟨sRec_e l1_z (fun j _ _ => cS_v (fun o k a d => c o k (by unfold cQ; omega)) j) (fun j _ hj_z => mS_v m hj_z) s1_z, ⟨?_, ?_, ?_, fun j hj_z => ?_⟩, ?_, fun hb_z => ?_⟩
  · rw [c 60 1 (by unfold cQ; omega)]
    exact h1_z
  · rw [c 60 2 (by unfold cQ; omega)]
    exact h2_z
  · rw [c 60 2 (by unfold cQ; omega), m 164 77 (by unfold mQ; omega)]
    exact h3_z
  · rw [c 60 2 (by unfold cQ; omega)] at hj_z ⊢
    rw [c 60 1 (by unfold cQ; omega)]
    have q := hI_r (nx := (rg_v h 60 1).toInt) (sz := (rg_v h 60 2).toInt) (j := j)
    exact sRec_e l1_z (fun i _ _ => cS_v (fun o k a d => c o k (by unfold cQ; omega)) i) (fun i _ _ => m 200 _ (by unfold mQ; omega)) (h4_z j hj_z)
  · rw [c 0 8 (by unfold cQ; omega), m 164 79 (by unfold mQ; omega)]
    exact i1_z
  · rw [c 0 8 (by unfold cQ; omega)] at hb_z
    exact sRec_e l1_z (fun i _ _ => cS_v (fun o k a d => c o k (by unfold cQ; omega)) i) (fun i _ _ => m 201 _ (by unfold mQ; omega)) (i2_z hb_z)
/-- a push in both -/
theorem hR_push {lo : Nat} {h0_z h h' g0_z g g' : am_H} (l1_z : lo ≤ 1) (S : sRec lo (cS_z h0_z 48) (mS g0_z 0)) (H : hR lo h g) (p : hp_z h0_z h h') (fr : ∀ o k, 62 ≤ o → o ≤ 141 → ¬ (62 + 4 * (rg_v h 60 1).toNatClampNeg ≤ o ∧ o ≤ 62 + 4 * (rg_v h 60 1).toNatClampNeg + 3) → h' o k = h o k) (m : mpu g0_z g g') : hR lo h' g' := by
  obtain ⟨p1_z, p2_z, p3_z⟩ := p
  obtain ⟨m1_z, m2_z, m3_z, m4_z⟩ := m
  obtain ⟨⟨n0_z, n1_z⟩, ⟨s0_z, s1_z⟩, e, H4⟩ := H
  have cn := rt_cl n0_z
  refine ⟨by rw [p2_z]; omega, by rw [p3_z]; omega, Int32.toInt_inj.mp (by rw [p3_z, m1_z, e]), fun j hj_z => ?_⟩
  rw [p3_z] at hj_z
  rw [p2_z, p3_z]
  by_cases hl_z : (j : Int) = min (rg_v h 60 2).toInt 19
  · -- the new one
    have a1_z : hI (((rg_v h 60 1).toInt + 1) % 20) (min ((rg_v h 60 2).toInt + 1) 20) j = 62 + 4 * (rg_v h 60 1).toNatClampNeg := by
      unfold hI
      omega
    rw [a1_z]
    refine sRec_e l1_z (fun i _ hi_z => p1_z i hi_z) (fun i _ hi_z => ?_) S
    show rg_v g' 200 (17 * j + i) = mS g0_z 0 i
    rw [show 17 * j = 17 * (min (rg_v g 164 77).toInt 19).toNat by rw [← e]; omega]
    exact m2_z i hi_z
  · by_cases hs_z : (rg_v h 60 2).toInt < 20
    · have a1_z : hI (((rg_v h 60 1).toInt + 1) % 20) (min ((rg_v h 60 2).toInt + 1) 20) j = hI (rg_v h 60 1).toInt (rg_v h 60 2).toInt j := by
        unfold hI
        omega
      have a2_z : ¬ hI (rg_v h 60 1).toInt (rg_v h 60 2).toInt j = 62 + 4 * (rg_v h 60 1).toNatClampNeg := by
        unfold hI
        omega
      rw [a1_z]
      have q := hI_r (nx := (rg_v h 60 1).toInt) (sz := (rg_v h 60 2).toInt) (j := j)
      refine sRec_e l1_z (fun i _ _ => cS_e (fun o k a d => fr o k (by omega) (by omega) ?_) i) (fun i _ hi_z => ?_) (H4 j (by omega))
      · unfold hI at a2_z a d
        omega
      · exact m3_z (by rw [← e]; omega) (17 * j + i) (by rw [← e]; omega)
    · have a1_z : hI (((rg_v h 60 1).toInt + 1) % 20) (min ((rg_v h 60 2).toInt + 1) 20) j = hI (rg_v h 60 1).toInt (rg_v h 60 2).toInt (j + 1) := by
        unfold hI
        omega
      have a2_z : ¬ hI (rg_v h 60 1).toInt (rg_v h 60 2).toInt (j + 1) = 62 + 4 * (rg_v h 60 1).toNatClampNeg := by
        unfold hI
        omega
      rw [a1_z]
      have q := hI_r (nx := (rg_v h 60 1).toInt) (sz := (rg_v h 60 2).toInt) (j := j + 1)
      refine sRec_e l1_z (fun i _ _ => cS_e (fun o k a d => fr o k (by omega) (by omega) ?_) i) (fun i _ hi_z => ?_) (H4 (j + 1) (by omega))
      · unfold hI at a2_z a d
        omega
      · have z := m4_z (by rw [← e]; omega) (17 * j + i) (by omega)
        rw [z, show 17 * j + i + 17 = 17 * (j + 1) + i by omega]
theorem bt_key {t : Int32} {h : am_H} {l u : Int} {o f : Nat} (hG : ag_G t h) (hk_z : am_ks0[o]? = some (.inl 3)) (hf_z : f < 8) (ht : ab_hi ab_tab o f = ab_i l u) (l0_z : 0 ≤ l) (u9_z : u ≤ 99) : 0 ≤ (rg_v h o f).toInt ∧ (rg_v h o f).toInt ≤ 99 := by
  have z := hG.1 o f _ hk_z (show f < 8 from hf_z)
  rw [ht] at z
  obtain ⟨x, e, x0_z, x1_z⟩ := z
  unfold rg_v
  rw [e]
  exact ⟨Int.le_trans l0_z x0_z, Int.le_trans x1_z u9_z⟩
theorem bt_2 {t : Int32} {h : am_H} (hG : ag_G t h) : bt 2 h := by
  intro b f hb_z f1_z f8_z
  match b, f, hb_z, f1_z, f8_z with
  | 0, 1, _, _, _ => exact bt_key (l := 0) (u := 99) (o := 19) (f := 1) hG (by decide +kernel) (by decide) (by decide +kernel) (by decide) (by decide)
  | 0, 2, _, _, _ => exact bt_key (l := 0) (u := 20) (o := 19) (f := 2) hG (by decide +kernel) (by decide) (by decide +kernel) (by decide) (by decide)
  | 0, 3, _, _, _ => exact bt_key (l := 0) (u := 20) (o := 19) (f := 3) hG (by decide +kernel) (by decide) (by decide +kernel) (by decide) (by decide)
  | 0, 4, _, _, _ => exact bt_key (l := 0) (u := 9) (o := 19) (f := 4) hG (by decide +kernel) (by decide) (by decide +kernel) (by decide) (by decide)
  | 0, 5, _, _, _ => exact bt_key (l := 0) (u := 99) (o := 19) (f := 5) hG (by decide +kernel) (by decide) (by decide +kernel) (by decide) (by decide)
  | 0, 6, _, _, _ => exact bt_key (l := 0) (u := 9) (o := 19) (f := 6) hG (by decide +kernel) (by decide) (by decide +kernel) (by decide) (by decide)
  | 0, 7, _, _, _ => exact bt_key (l := 0) (u := 99) (o := 19) (f := 7) hG (by decide +kernel) (by decide) (by decide +kernel) (by decide) (by decide)
  | 1, 1, _, _, _ => exact bt_key (l := 0) (u := 99) (o := 20) (f := 1) hG (by decide +kernel) (by decide) (by decide +kernel) (by decide) (by decide)
  | 1, 2, _, _, _ => exact bt_key (l := 0) (u := 20) (o := 20) (f := 2) hG (by decide +kernel) (by decide) (by decide +kernel) (by decide) (by decide)
  | 1, 3, _, _, _ => exact bt_key (l := 0) (u := 20) (o := 20) (f := 3) hG (by decide +kernel) (by decide) (by decide +kernel) (by decide) (by decide)
  | 1, 4, _, _, _ => exact bt_key (l := 0) (u := 9) (o := 20) (f := 4) hG (by decide +kernel) (by decide) (by decide +kernel) (by decide) (by decide)
  | 1, 5, _, _, _ => exact bt_key (l := 0) (u := 99) (o := 20) (f := 5) hG (by decide +kernel) (by decide) (by decide +kernel) (by decide) (by decide)
  | 1, 6, _, _, _ => exact bt_key (l := 0) (u := 9) (o := 20) (f := 6) hG (by decide +kernel) (by decide) (by decide +kernel) (by decide) (by decide)
  | 1, 7, _, _, _ => exact bt_key (l := 0) (u := 99) (o := 20) (f := 7) hG (by decide +kernel) (by decide) (by decide +kernel) (by decide) (by decide)
  | 2, 1, _, _, _ => exact bt_key (l := 0) (u := 99) (o := 21) (f := 1) hG (by decide +kernel) (by decide) (by decide +kernel) (by decide) (by decide)
  | 2, 2, _, _, _ => exact bt_key (l := 0) (u := 20) (o := 21) (f := 2) hG (by decide +kernel) (by decide) (by decide +kernel) (by decide) (by decide)
  | 2, 3, _, _, _ => exact bt_key (l := 0) (u := 20) (o := 21) (f := 3) hG (by decide +kernel) (by decide) (by decide +kernel) (by decide) (by decide)
  | 2, 4, _, _, _ => exact bt_key (l := 0) (u := 9) (o := 21) (f := 4) hG (by decide +kernel) (by decide) (by decide +kernel) (by decide) (by decide)
  | 2, 5, _, _, _ => exact bt_key (l := 0) (u := 99) (o := 21) (f := 5) hG (by decide +kernel) (by decide) (by decide +kernel) (by decide) (by decide)
  | 2, 6, _, _, _ => exact bt_key (l := 0) (u := 9) (o := 21) (f := 6) hG (by decide +kernel) (by decide) (by decide +kernel) (by decide) (by decide)
  | 2, 7, _, _, _ => exact bt_key (l := 0) (u := 99) (o := 21) (f := 7) hG (by decide +kernel) (by decide) (by decide +kernel) (by decide) (by decide)
  | 3, 1, _, _, _ => exact bt_key (l := 0) (u := 99) (o := 22) (f := 1) hG (by decide +kernel) (by decide) (by decide +kernel) (by decide) (by decide)
  | 3, 2, _, _, _ => exact bt_key (l := 0) (u := 20) (o := 22) (f := 2) hG (by decide +kernel) (by decide) (by decide +kernel) (by decide) (by decide)
  | 3, 3, _, _, _ => exact bt_key (l := 0) (u := 20) (o := 22) (f := 3) hG (by decide +kernel) (by decide) (by decide +kernel) (by decide) (by decide)
  | 3, 4, _, _, _ => exact bt_key (l := 0) (u := 9) (o := 22) (f := 4) hG (by decide +kernel) (by decide) (by decide +kernel) (by decide) (by decide)
  | 3, 5, _, _, _ => exact bt_key (l := 0) (u := 99) (o := 22) (f := 5) hG (by decide +kernel) (by decide) (by decide +kernel) (by decide) (by decide)
  | 3, 6, _, _, _ => exact bt_key (l := 0) (u := 9) (o := 22) (f := 6) hG (by decide +kernel) (by decide) (by decide +kernel) (by decide) (by decide)
  | 3, 7, _, _, _ => exact bt_key (l := 0) (u := 99) (o := 22) (f := 7) hG (by decide +kernel) (by decide) (by decide +kernel) (by decide) (by decide)
  | b + 4, _, hb_z, _, _ => omega
  | 0, f + 8, _, _, h8_z => omega
  | 1, f + 8, _, _, h8_z => omega
  | 2, f + 8, _, _, h8_z => omega
  | 3, f + 8, _, _, h8_z => omega
theorem bt_23 {t : Int32} {h : am_H} (hG : ag_G t h) : bt 23 h := by
  intro b f hb_z f1_z f8_z
  match b, f, hb_z, f1_z, f8_z with
  | 0, 1, _, _, _ => exact bt_key (l := 0) (u := 99) (o := 40) (f := 1) hG (by decide +kernel) (by decide) (by decide +kernel) (by decide) (by decide)
  | 0, 2, _, _, _ => exact bt_key (l := 0) (u := 20) (o := 40) (f := 2) hG (by decide +kernel) (by decide) (by decide +kernel) (by decide) (by decide)
  | 0, 3, _, _, _ => exact bt_key (l := 0) (u := 20) (o := 40) (f := 3) hG (by decide +kernel) (by decide) (by decide +kernel) (by decide) (by decide)
  | 0, 4, _, _, _ => exact bt_key (l := 0) (u := 9) (o := 40) (f := 4) hG (by decide +kernel) (by decide) (by decide +kernel) (by decide) (by decide)
  | 0, 5, _, _, _ => exact bt_key (l := 0) (u := 99) (o := 40) (f := 5) hG (by decide +kernel) (by decide) (by decide +kernel) (by decide) (by decide)
  | 0, 6, _, _, _ => exact bt_key (l := 0) (u := 9) (o := 40) (f := 6) hG (by decide +kernel) (by decide) (by decide +kernel) (by decide) (by decide)
  | 0, 7, _, _, _ => exact bt_key (l := 0) (u := 99) (o := 40) (f := 7) hG (by decide +kernel) (by decide) (by decide +kernel) (by decide) (by decide)
  | 1, 1, _, _, _ => exact bt_key (l := 0) (u := 99) (o := 41) (f := 1) hG (by decide +kernel) (by decide) (by decide +kernel) (by decide) (by decide)
  | 1, 2, _, _, _ => exact bt_key (l := 0) (u := 20) (o := 41) (f := 2) hG (by decide +kernel) (by decide) (by decide +kernel) (by decide) (by decide)
  | 1, 3, _, _, _ => exact bt_key (l := 0) (u := 20) (o := 41) (f := 3) hG (by decide +kernel) (by decide) (by decide +kernel) (by decide) (by decide)
  | 1, 4, _, _, _ => exact bt_key (l := 0) (u := 9) (o := 41) (f := 4) hG (by decide +kernel) (by decide) (by decide +kernel) (by decide) (by decide)
  | 1, 5, _, _, _ => exact bt_key (l := 0) (u := 99) (o := 41) (f := 5) hG (by decide +kernel) (by decide) (by decide +kernel) (by decide) (by decide)
  | 1, 6, _, _, _ => exact bt_key (l := 0) (u := 9) (o := 41) (f := 6) hG (by decide +kernel) (by decide) (by decide +kernel) (by decide) (by decide)
  | 1, 7, _, _, _ => exact bt_key (l := 0) (u := 99) (o := 41) (f := 7) hG (by decide +kernel) (by decide) (by decide +kernel) (by decide) (by decide)
  | 2, 1, _, _, _ => exact bt_key (l := 0) (u := 99) (o := 42) (f := 1) hG (by decide +kernel) (by decide) (by decide +kernel) (by decide) (by decide)
  | 2, 2, _, _, _ => exact bt_key (l := 0) (u := 20) (o := 42) (f := 2) hG (by decide +kernel) (by decide) (by decide +kernel) (by decide) (by decide)
  | 2, 3, _, _, _ => exact bt_key (l := 0) (u := 20) (o := 42) (f := 3) hG (by decide +kernel) (by decide) (by decide +kernel) (by decide) (by decide)
  | 2, 4, _, _, _ => exact bt_key (l := 0) (u := 9) (o := 42) (f := 4) hG (by decide +kernel) (by decide) (by decide +kernel) (by decide) (by decide)
  | 2, 5, _, _, _ => exact bt_key (l := 0) (u := 99) (o := 42) (f := 5) hG (by decide +kernel) (by decide) (by decide +kernel) (by decide) (by decide)
  | 2, 6, _, _, _ => exact bt_key (l := 0) (u := 9) (o := 42) (f := 6) hG (by decide +kernel) (by decide) (by decide +kernel) (by decide) (by decide)
  | 2, 7, _, _, _ => exact bt_key (l := 0) (u := 99) (o := 42) (f := 7) hG (by decide +kernel) (by decide) (by decide +kernel) (by decide) (by decide)
  | 3, 1, _, _, _ => exact bt_key (l := 0) (u := 99) (o := 43) (f := 1) hG (by decide +kernel) (by decide) (by decide +kernel) (by decide) (by decide)
  | 3, 2, _, _, _ => exact bt_key (l := 0) (u := 20) (o := 43) (f := 2) hG (by decide +kernel) (by decide) (by decide +kernel) (by decide) (by decide)
  | 3, 3, _, _, _ => exact bt_key (l := 0) (u := 20) (o := 43) (f := 3) hG (by decide +kernel) (by decide) (by decide +kernel) (by decide) (by decide)
  | 3, 4, _, _, _ => exact bt_key (l := 0) (u := 9) (o := 43) (f := 4) hG (by decide +kernel) (by decide) (by decide +kernel) (by decide) (by decide)
  | 3, 5, _, _, _ => exact bt_key (l := 0) (u := 99) (o := 43) (f := 5) hG (by decide +kernel) (by decide) (by decide +kernel) (by decide) (by decide)
  | 3, 6, _, _, _ => exact bt_key (l := 0) (u := 9) (o := 43) (f := 6) hG (by decide +kernel) (by decide) (by decide +kernel) (by decide) (by decide)
  | 3, 7, _, _, _ => exact bt_key (l := 0) (u := 99) (o := 43) (f := 7) hG (by decide +kernel) (by decide) (by decide +kernel) (by decide) (by decide)
  | b + 4, _, hb_z, _, _ => omega
  | 0, f + 8, _, _, h8_z => omega
  | 1, f + 8, _, _, h8_z => omega
  | 2, f + 8, _, _, h8_z => omega
  | 3, f + 8, _, _, h8_z => omega
theorem ef_r {s e t r : Int32} (s0_z : 0 ≤ s.toInt) (s20_z : s.toInt ≤ 20) : 0 ≤ (ef s e t r).toInt ∧ (ef s e t r).toInt ≤ 20 := by
  unfold ef
  split
  · decide
  · exact ⟨s0_z, s20_z⟩
/-- breaths that dizzy -/
theorem mD_iff {rs tk tm : Int32} (r0_z : 0 ≤ rs.toInt) (t1_z : 1 ≤ tm.toInt) (t20_z : tm.toInt ≤ 20) (k0_z : 0 ≤ tk.toInt) (k9_z : tk.toInt ≤ 99) : ∀ (n : Nat) (d e t : Int32), 0 ≤ d.toInt → d.toInt ≤ 20 → 0 ≤ e.toInt → e.toInt ≤ t.toInt → t.toInt + n * 100 ≤ 300000 → (mD rs tk tm n d e t ↔ 0 < n ∧ 0 < rs.toInt ∧ tm.toInt < (ef d e t rs).toInt + n) ∧ (¬ mD rs tk tm n d e t → mB rs tk n d e t = bS rs tk n d e t ∧ (0 < n → 0 ≤ (bS rs tk n d e t).toInt ∧ (bS rs tk n d e t).toInt ≤ 20))
  | 0, d, e, t, _, _, _, _, _ => ⟨⟨fun q => absurd q (fun z => z), fun q => absurd q.1 (by omega)⟩, fun _ => ⟨rfl, fun q => absurd q (by omega)⟩⟩
  | n + 1, d, e, t, d0_z, d20_z, e0_z, et, tb => by
    have x := ef_r (s := d) (e := e) (t := t) (r := rs) d0_z d20_z
    have te := ab_isub (x := t) (y := e) (by omega) (by omega)
    have tt := ab_iadd (x := t) (y := tk) (by omega) (by omega)
    have z0_z : (0 : Int32).toInt = 0 := by decide
    have z1_z : (1 : Int32).toInt = 1 := by decide
    have hm_z : mrs d t e rs = ef d e t rs := mrs_ef d0_z
    by_cases c : tm.toInt ≤ (ef d e t rs).toInt
    · have rp : 0 < rs.toInt := by
        by_cases r : 0 < rs.toInt
        · exact r
        · have : ef d e t rs = 0 := ef_1 (by omega)
          rw [this, z0_z] at c
          omega
      have md : mD rs tk tm (n + 1) d e t := Or.inl (by rw [hm_z]; exact c)
      exact ⟨⟨fun _ => ⟨by omega, rp, by omega⟩, fun _ => md⟩, fun q => absurd md q⟩
    · have x1_z := ab_iadd (x := ef d e t rs) (y := 1) (by omega) (by omega)
      obtain ⟨i1_z, i2_z⟩ := mD_iff r0_z t1_z t20_z k0_z k9_z n (ef d e t rs + 1) (t + tk) (t + tk) (by omega) (by omega) (by omega) (by omega) (by omega)
      have ts := ab_isub (x := t + tk) (y := t + tk) (by omega) (by omega)
      have ed_z : mD rs tk tm (n + 1) d e t ↔ mD rs tk tm n (ef d e t rs + 1) (t + tk) (t + tk) := by
        refine ⟨fun q => ?_, fun q => Or.inr (by rw [hm_z]; exact q)⟩
        rcases q with q | q
        · rw [hm_z] at q
          exact absurd q c
        · rw [hm_z] at q
          exact q
      refine ⟨ed_z.trans (i1_z.trans ⟨fun q => ?_, fun q => ?_⟩), fun q => ?_⟩
      · obtain ⟨q1_z, q2_z, q3_z⟩ := q
        rw [ef_0 (by omega)] at q3_z
        exact ⟨by omega, q2_z, by omega⟩
      · obtain ⟨q1_z, q2_z, q3_z⟩ := q
        refine ⟨by omega, q2_z, ?_⟩
        rw [ef_0 (by omega)]
        omega
      · obtain ⟨j1_z, j2_z⟩ := i2_z (fun y => q (ed_z.mpr y))
        have e1_z : mB rs tk (n + 1) d e t = mB rs tk n (ef d e t rs + 1) (t + tk) (t + tk) := by
          show mB rs tk n (mrs d t e rs + 1) (t + tk) (t + tk) = _
          rw [hm_z]
        refine ⟨e1_z.trans j1_z, fun _ => ?_⟩
        show 0 ≤ (bS rs tk n (ef d e t rs + 1) (t + tk) (t + tk)).toInt ∧ (bS rs tk n (ef d e t rs + 1) (t + tk) (t + tk)).toInt ≤ 20
        by_cases n0_z : 0 < n
        · exact j2_z n0_z
        · obtain rfl : n = 0 := by omega
          show 0 ≤ (ef d e t rs + 1).toInt ∧ (ef d e t rs + 1).toInt ≤ 20
          omega
theorem St_kk {lo : Nat} {h h' g g' : am_H} (l1_z : lo ≤ 1) (c : (∀ o k, ¬ (148 ≤ o ∧ o ≤ 152) → h' o k = h o k)) (m : (∀ o q, mQ o q → g' o q = g o q)) (S : St lo h g) : St lo h' g' := St_e l1_z (fun o k q => by unfold rg_v; rw [c o k (by unfold cQ at q; omega)]) (fun o q e => mQ_v m e) S
theorem iR_e {lo : Nat} {h h' g g' : am_H} (l1_z : lo ≤ 1) (c : ∀ o k, (56 ≤ o ∧ o ≤ 59) ∨ (o = 0 ∧ k = 8) → rg_v h' o k = rg_v h o k) (m : ∀ q, rg_v g' 201 q = rg_v g 201 q) (m79_z : rg_v g' 164 79 = rg_v g 164 79) (I : iR lo h g) : iR lo h' g' := by
  obtain ⟨i1_z, i2_z⟩ := I
  refine ⟨?_, fun hb_z => ?_⟩
  · rw [c 0 8 (by omega), m79_z]
    exact i1_z
  · rw [c 0 8 (by omega)] at hb_z
    exact sRec_e l1_z (fun i _ _ => cS_v (fun o k a d => c o k (by omega)) i) (fun i _ _ => m i) (i2_z hb_z)
