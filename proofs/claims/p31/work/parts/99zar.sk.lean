set_option maxHeartbeats 400000
/-! ===== WHAT seek ANSWERS (wip/r/gen99sh.py) ===== -/
abbrev skQ := Option (Int32 × Int32)
/-- a leak's trials -/
def skT (fi tm : Nat → Int32) (x : Int64) (l : Int32) : Nat → Int32 → Int64 → Int64 → skQ → Int64 × Int64 × skQ
  | 0, _, u, w, q => (u, w, q)
  | k + 1, t, u, w, q => if 0 < (lg_cmp (x * (fi t.toNatClampNeg).toInt64 * w) (u * (tm t.toNatClampNeg).toInt64)).toInt then skT fi tm x l k (t + 1) (x * (fi t.toNatClampNeg).toInt64) (tm t.toNatClampNeg).toInt64 (some (l, t)) else skT fi tm x l k (t + 1) u w q
def skL (lf : Nat → Int64) (lk fi tm : Nat → Int32) (T : Nat) : Nat → Int32 → Int64 → Int64 → skQ → Int64 × Int64 × skQ
  | 0, _, u, w, q => (u, w, q)
  | k + 1, l, u, w, q => if (lk l.toNatClampNeg).toInt < 3 then skL lf lk fi tm T k (l + 1) (skT fi tm (lf l.toNatClampNeg) l T 0 u w q).1 (skT fi tm (lf l.toNatClampNeg) l T 0 u w q).2.1 (skT fi tm (lf l.toNatClampNeg) l T 0 u w q).2.2 else skL lf lk fi tm T k (l + 1) u w q
/-- the next one sought -/
def skN (lf : Nat → Int64) (lk fi tm : Nat → Int32) (L T : Nat) : Int64 × Int64 × skQ := skL lf lk fi tm T L 0 0 1 none
def skU (f : Nat → Int64) (fi : Nat → Int32) (l t : Int32) (i : Nat) : Int64 := if i = l.toNatClampNeg then f l.toNatClampNeg * (100 - fi t.toNatClampNeg).toInt64 / 100 else f i
def skV (f : Nat → Int32) (l : Int32) (i : Nat) : Int32 := if i = l.toNatClampNeg then f l.toNatClampNeg + 1 else f i
def skI (fi tm : Nat → Int32) (L T : Nat) : Nat → (Nat → Int64) → (Nat → Int32) → skQ → skQ
  | 0, _, _, q => q
  | r + 1, lf, lk, _ => match (skN lf lk fi tm L T).2.2 with
    | none => none
    | some (l, t) => skI fi tm L T r (skU lf fi l t) (skV lk l) (some (l, t))
theorem skT_1 {fi tm : Nat → Int32} {x : Int64} {l t : Int32} {k : Nat} {u w : Int64} {q : skQ} (h : 0 < (lg_cmp (x * (fi t.toNatClampNeg).toInt64 * w) (u * (tm t.toNatClampNeg).toInt64)).toInt) : skT fi tm x l (k + 1) t u w q = skT fi tm x l k (t + 1) (x * (fi t.toNatClampNeg).toInt64) (tm t.toNatClampNeg).toInt64 (some (l, t)) := by
  rw [skT.eq_2, if_pos h]
theorem skT_0 {fi tm : Nat → Int32} {x : Int64} {l t : Int32} {k : Nat} {u w : Int64} {q : skQ} (h : ¬ 0 < (lg_cmp (x * (fi t.toNatClampNeg).toInt64 * w) (u * (tm t.toNatClampNeg).toInt64)).toInt) : skT fi tm x l (k + 1) t u w q = skT fi tm x l k (t + 1) u w q := by
  rw [skT.eq_2, if_neg h]
theorem skL_1 {lf : Nat → Int64} {lk fi tm : Nat → Int32} {T k : Nat} {l : Int32} {u w : Int64} {q : skQ} (h : (lk l.toNatClampNeg).toInt < 3) : skL lf lk fi tm T (k + 1) l u w q = skL lf lk fi tm T k (l + 1) (skT fi tm (lf l.toNatClampNeg) l T 0 u w q).1 (skT fi tm (lf l.toNatClampNeg) l T 0 u w q).2.1 (skT fi tm (lf l.toNatClampNeg) l T 0 u w q).2.2 := by
  rw [skL.eq_2, if_pos h]
theorem skL_0 {lf : Nat → Int64} {lk fi tm : Nat → Int32} {T k : Nat} {l : Int32} {u w : Int64} {q : skQ} (h : ¬ (lk l.toNatClampNeg).toInt < 3) : skL lf lk fi tm T (k + 1) l u w q = skL lf lk fi tm T k (l + 1) u w q := by
  rw [skL.eq_2, if_neg h]
theorem sk_cmp {x y : Int64} : 0 < (lg_cmp x y).toInt ↔ y.toInt < x.toInt := by
  unfold lg_cmp
  split
  · rename_i h
    have h2_z : y.toInt < x.toInt := Int64.lt_iff_toInt_lt.mp h
    exact ⟨fun _ => h2_z, fun _ => by decide⟩
  · rename_i h
    have h2_z : ¬ y.toInt < x.toInt := fun q => h (Int64.lt_iff_toInt_lt.mpr q)
    split
    · exact ⟨fun q => absurd q (by decide), fun q => absurd q h2_z⟩
    · exact ⟨fun q => absurd q (by decide), fun q => absurd q h2_z⟩
theorem sk_mul {x y : Int64} (h : -9223372036854775808 ≤ x.toInt * y.toInt) (h2_z : x.toInt * y.toInt ≤ 9223372036854775807) : (x * y).toInt = x.toInt * y.toInt := by
  rw [Int64.toInt_mul]
  exact ab_bm64 h h2_z
/-- what is met of the gains so far -/
def skB (s : Int64 × Int64 × skQ) : Prop := (0 ≤ s.1.toInt ∧ s.1.toInt ≤ 100000000000) ∧ (1 ≤ s.2.1.toInt ∧ s.2.1.toInt ≤ 99) ∧ ((s.2.2 = none ∧ s.1.toInt = 0) ∨ (¬ s.2.2 = none ∧ 0 < s.1.toInt))
theorem skT_b {fi tm : Nat → Int32} {x : Int64} {l : Int32} {T : Nat} (x0_z : 0 ≤ x.toInt) (x9_z : x.toInt ≤ 1000000000) (hf_z : ∀ t, t < T → 1 ≤ (fi t).toInt ∧ (fi t).toInt ≤ 100) (ht : ∀ t, t < T → 1 ≤ (tm t).toInt ∧ (tm t).toInt ≤ 99) (T9 : T ≤ 99) : ∀ (k : Nat) (t : Int32) (u w : Int64) (q : skQ), 0 ≤ t.toInt → t.toInt + k = T → skB (u, w, q) → skB (skT fi tm x l k t u w q) ∧ ((skT fi tm x l k t u w q).2.2 = q ∨ ∃ t2_z : Int32, (skT fi tm x l k t u w q).2.2 = some (l, t2_z) ∧ 0 ≤ t2_z.toInt ∧ t2_z.toInt < T)
  | 0, t, u, w, q, _, _, B => ⟨B, Or.inl rfl⟩
  | k + 1, t, u, w, q, t0_z, tk, B => by
    have ct := rt_cl t0_z
    have c1_z := rt_c1 t0_z (by omega)
    obtain ⟨⟨u0_z, u9_z⟩, ⟨w1_z, w9_z⟩, uq⟩ := B
    have f := hf_z t.toNatClampNeg (by omega)
    have s := ht t.toNatClampNeg (by omega)
    have ef : (fi t.toNatClampNeg).toInt64.toInt = (fi t.toNatClampNeg).toInt := Int32.toInt_toInt64 _
    have es_z : (tm t.toNatClampNeg).toInt64.toInt = (tm t.toNatClampNeg).toInt := Int32.toInt_toInt64 _
    have g0_z : 0 ≤ x.toInt * (fi t.toNatClampNeg).toInt := Int.mul_nonneg x0_z (by omega)
    have g9_z : x.toInt * (fi t.toNatClampNeg).toInt ≤ 1000000000 * 100 := Int.mul_le_mul x9_z f.2 (by omega) (by decide)
    have eg := sk_mul (x := x) (y := (fi t.toNatClampNeg).toInt64) (by rw [ef]; omega) (by rw [ef]; omega)
    rw [ef] at eg
    have a0_z : 0 ≤ x.toInt * (fi t.toNatClampNeg).toInt * w.toInt := Int.mul_nonneg g0_z (by omega)
    have a9_z : x.toInt * (fi t.toNatClampNeg).toInt * w.toInt ≤ (1000000000 * 100) * 99 := Int.mul_le_mul g9_z w9_z (by omega) (by decide)
    have ea := sk_mul (x := x * (fi t.toNatClampNeg).toInt64) (y := w) (by rw [eg]; omega) (by rw [eg]; omega)
    rw [eg] at ea
    have b0_z : 0 ≤ u.toInt * (tm t.toNatClampNeg).toInt := Int.mul_nonneg u0_z (by omega)
    have b9_z : u.toInt * (tm t.toNatClampNeg).toInt ≤ 100000000000 * 99 := Int.mul_le_mul u9_z s.2 (by omega) (by decide)
    have eb := sk_mul (x := u) (y := (tm t.toNatClampNeg).toInt64) (by rw [es_z]; omega) (by rw [es_z]; omega)
    rw [es_z] at eb
    by_cases c : 0 < (lg_cmp (x * (fi t.toNatClampNeg).toInt64 * w) (u * (tm t.toNatClampNeg).toInt64)).toInt
    · rw [skT_1 c]
      have c2_z := sk_cmp.mp c
      rw [ea, eb] at c2_z
      have gp : 0 < x.toInt * (fi t.toNatClampNeg).toInt := by
        by_cases z : x.toInt * (fi t.toNatClampNeg).toInt = 0
        · rw [z, Int.zero_mul] at c2_z
          omega
        · omega
      obtain ⟨i1_z, i2_z⟩ := skT_b x0_z x9_z hf_z ht T9 k (t + 1) (x * (fi t.toNatClampNeg).toInt64) (tm t.toNatClampNeg).toInt64 (some (l, t)) (by omega) (by omega) ⟨by show 0 ≤ (x * (fi t.toNatClampNeg).toInt64).toInt ∧ (x * (fi t.toNatClampNeg).toInt64).toInt ≤ 100000000000; rw [eg]; omega, by show 1 ≤ (tm t.toNatClampNeg).toInt64.toInt ∧ (tm t.toNatClampNeg).toInt64.toInt ≤ 99; rw [es_z]; exact s, Or.inr ⟨fun q => by cases q, by show 0 < (x * (fi t.toNatClampNeg).toInt64).toInt; rw [eg]; exact gp⟩⟩
      refine ⟨i1_z, Or.inr ?_⟩
      rcases i2_z with i2_z | i2_z
      · exact ⟨t, i2_z, t0_z, by omega⟩
      · exact i2_z
    · rw [skT_0 c]
      exact skT_b x0_z x9_z hf_z ht T9 k (t + 1) u w q (by omega) (by omega) ⟨⟨u0_z, u9_z⟩, ⟨w1_z, w9_z⟩, uq⟩
theorem skL_b {lf : Nat → Int64} {lk fi tm : Nat → Int32} {L T : Nat} (L9 : L ≤ 99) (T9 : T ≤ 99) (hx_z : ∀ i, i < L → 0 ≤ (lf i).toInt ∧ (lf i).toInt ≤ 1000000000) (hf_z : ∀ t, t < T → 1 ≤ (fi t).toInt ∧ (fi t).toInt ≤ 100) (ht : ∀ t, t < T → 1 ≤ (tm t).toInt ∧ (tm t).toInt ≤ 99) : ∀ (k : Nat) (l : Int32) (u w : Int64) (q : skQ), 0 ≤ l.toInt → l.toInt + k = L → skB (u, w, q) → skB (skL lf lk fi tm T k l u w q) ∧ ((skL lf lk fi tm T k l u w q).2.2 = q ∨ ∃ l2_z t2_z : Int32, (skL lf lk fi tm T k l u w q).2.2 = some (l2_z, t2_z) ∧ (0 ≤ l2_z.toInt ∧ l2_z.toInt < L) ∧ (0 ≤ t2_z.toInt ∧ t2_z.toInt < T) ∧ (lk l2_z.toNatClampNeg).toInt < 3)
  | 0, l, u, w, q, _, _, B => ⟨B, Or.inl rfl⟩
  | k + 1, l, u, w, q, l0_z, lk_, B => by
    have cl := rt_cl l0_z
    have c1_z := rt_c1 l0_z (by omega)
    by_cases c : (lk l.toNatClampNeg).toInt < 3
    · rw [skL_1 c]
      have x := hx_z l.toNatClampNeg (by omega)
      obtain ⟨i1_z, i2_z⟩ := skT_b (l := l) x.1 x.2 hf_z ht T9 T 0 u w q (by decide) (by rw [show (0 : Int32).toInt = 0 by decide]; omega) B
      obtain ⟨j1_z, j2_z⟩ := skL_b L9 T9 hx_z hf_z ht k (l + 1) _ _ _ (by omega) (by omega) i1_z
      refine ⟨j1_z, ?_⟩
      rcases j2_z with j2_z | j2_z
      · rcases i2_z with i2_z | ⟨t2_z, i2_z, i3_z, i4_z⟩
        · exact Or.inl (j2_z.trans i2_z)
        · exact Or.inr ⟨l, t2_z, j2_z.trans i2_z, ⟨l0_z, by omega⟩, ⟨i3_z, i4_z⟩, c⟩
      · exact Or.inr j2_z
    · rw [skL_0 c]
      exact skL_b L9 T9 hx_z hf_z ht k (l + 1) u w q (by omega) (by omega) B
/-- how many looks are left -/
def skC (lk : Nat → Int32) : Nat → Nat
  | 0 => 0
  | n + 1 => skC lk n + (3 - (lk n).toInt).toNat
theorem skC_e {f g : Nat → Int32} : ∀ n, (∀ i, i < n → f i = g i) → skC f n = skC g n
  | 0, _ => rfl
  | n + 1, e => by
    show skC f n + (3 - (f n).toInt).toNat = skC g n + (3 - (g n).toInt).toNat
    rw [skC_e n (fun i hi_z => e i (by omega)), e n (by omega)]
theorem skC_v {lk : Nat → Int32} {l : Int32} : ∀ n, l.toNatClampNeg < n → (lk l.toNatClampNeg).toInt < 3 → -3 ≤ (lk l.toNatClampNeg).toInt → skC (skV lk l) n + 1 = skC lk n
  | 0, h, _, _ => by omega
  | n + 1, h, h3_z, h4_z => by
    have e : (skV lk l n) = if n = l.toNatClampNeg then lk l.toNatClampNeg + 1 else lk n := rfl
    show skC (skV lk l) n + (3 - (skV lk l n).toInt).toNat + 1 = skC lk n + (3 - (lk n).toInt).toNat
    by_cases c : n = l.toNatClampNeg
    · have a := ab_iadd (x := lk l.toNatClampNeg) (y := 1) (by rw [show (1 : Int32).toInt = 1 by decide]; omega) (by rw [show (1 : Int32).toInt = 1 by decide]; omega)
      rw [show (1 : Int32).toInt = 1 by decide] at a
      have k := skC_e (f := skV lk l) (g := lk) n (fun i hi_z => if_neg (by omega))
      rw [e, if_pos c, k, a, c]
      omega
    · have k := skC_v n (by omega) h3_z h4_z
      rw [e, if_neg c]
      omega
/-- the bounds that the search keeps -/
def skG (lf : Nat → Int64) (lk : Nat → Int32) (L : Nat) : Prop := ∀ i, i < L → (0 ≤ (lf i).toInt ∧ (lf i).toInt ≤ 1000000000) ∧ (0 ≤ (lk i).toInt ∧ (lk i).toInt ≤ 3)
theorem skG_u {lf : Nat → Int64} {lk fi : Nat → Int32} {l t : Int32} {L T : Nat} (G : skG lf lk L) (hf_z : ∀ t, t < T → 1 ≤ (fi t).toInt ∧ (fi t).toInt ≤ 100) (hl_z : l.toNatClampNeg < L) (ht : t.toNatClampNeg < T) (h3_z : (lk l.toNatClampNeg).toInt < 3) : skG (skU lf fi l t) (skV lk l) L := by
  intro i hi_z
  have g := G i hi_z
  have gl := G _ hl_z
  have f := hf_z _ ht
  have z1_z : (1 : Int32).toInt = 1 := by decide
  refine ⟨?_, ?_⟩
  · unfold skU
    by_cases c : i = l.toNatClampNeg
    · rw [if_pos c]
      have z100_z : (100 : Int32).toInt = 100 := by decide
      have z64_z : (100 : Int64).toInt = 100 := by decide
      have s := ab_isub (x := 100) (y := fi t.toNatClampNeg) (by rw [z100_z]; omega) (by rw [z100_z]; omega)
      rw [z100_z] at s
      have es_z : (100 - fi t.toNatClampNeg).toInt64.toInt = (100 - fi t.toNatClampNeg).toInt := Int32.toInt_toInt64 _
      have m0_z : 0 ≤ (lf l.toNatClampNeg).toInt * (100 - fi t.toNatClampNeg).toInt := Int.mul_nonneg gl.1.1 (by omega)
      have m9_z : (lf l.toNatClampNeg).toInt * (100 - fi t.toNatClampNeg).toInt ≤ 1000000000 * 100 := Int.mul_le_mul gl.1.2 (by omega) (by omega) (by decide)
      have em := sk_mul (x := lf l.toNatClampNeg) (y := (100 - fi t.toNatClampNeg).toInt64) (by rw [es_z]; omega) (by rw [es_z]; omega)
      rw [es_z] at em
      have hd_z : ((lf l.toNatClampNeg * (100 - fi t.toNatClampNeg).toInt64) / 100).toInt = ((lf l.toNatClampNeg).toInt * (100 - fi t.toNatClampNeg).toInt) / 100 := by
        rw [Int64.toInt_div, em, z64_z, Int.tdiv_eq_ediv_of_nonneg m0_z]
        have q1_z := Int.ediv_nonneg m0_z (show (0 : Int) ≤ 100 by decide)
        have q2_z := Int.ediv_le_self 100 m0_z
        exact ab_bm64 (by omega) (by omega)
      rw [hd_z]
      have q1_z := Int.ediv_nonneg m0_z (show (0 : Int) ≤ 100 by decide)
      have q2_z : ((lf l.toNatClampNeg).toInt * (100 - fi t.toNatClampNeg).toInt) / 100 ≤ (1000000000 * 100) / 100 := Int.ediv_le_ediv (by decide) m9_z
      omega
    · rw [if_neg c]
      exact g.1
  · unfold skV
    by_cases c : i = l.toNatClampNeg
    · rw [if_pos c]
      have a := ab_iadd (x := lk l.toNatClampNeg) (y := 1) (by omega) (by omega)
      omega
    · rw [if_neg c]
      exact g.2
theorem skI_n {fi tm : Nat → Int32} {L T : Nat} (L9 : L ≤ 99) (T9 : T ≤ 99) (hf_z : ∀ t, t < T → 1 ≤ (fi t).toInt ∧ (fi t).toInt ≤ 100) (ht : ∀ t, t < T → 1 ≤ (tm t).toInt ∧ (tm t).toInt ≤ 99) : ∀ (r : Nat) (lf : Nat → Int64) (lk : Nat → Int32) (q : skQ), skG lf lk L → skC lk L < r → skI fi tm L T r lf lk q = none
  | 0, _, _, _, _, h => by omega
  | r + 1, lf, lk, q, G, h => by
    obtain ⟨-, b⟩ := skL_b (lf := lf) (lk := lk) L9 T9 (fun i hi_z => (G i hi_z).1) hf_z ht L 0 0 1 none (by decide) (by rw [show (0 : Int32).toInt = 0 by decide]; omega) ⟨by decide, by decide, Or.inl ⟨rfl, by decide⟩⟩
    rw [skI.eq_2]
    rcases b with b | ⟨l2_z, t2_z, b, ⟨l0_z, l9_z⟩, ⟨t0_z, t9_z⟩, b3_z⟩
    · rw [show (skN lf lk fi tm L T).2.2 = none from b]
    · rw [show (skN lf lk fi tm L T).2.2 = some (l2_z, t2_z) from b]
      have cl := rt_cl l0_z
      have ct := rt_cl t0_z
      have cv_z := skC_v L (l := l2_z) (lk := lk) (by omega) b3_z (by have := (G l2_z.toNatClampNeg (by omega)).2.1; omega)
      exact skI_n L9 T9 hf_z ht r _ _ _ (skG_u G hf_z (by omega) (by omega) b3_z) (by omega)
def skA (q : skQ) (a : Int32) : Int32 := match q with
  | none => a
  | some z => z.1
def skZ (q : skQ) (b : Int32) : Int32 := match q with
  | none => b
  | some z => z.2
theorem sk_t2 {r : Option Value} {h' : am_H} {l : Int32} {lf : Nat → Int64} {lk fi tm : Nat → Int32} {L T : Nat} {a0_z b0_z : Int32} (hl_z : l.toNatClampNeg < L) (l0_z : 0 ≤ l.toInt) (h3_z : (lk l.toNatClampNeg).toInt < 3) (T9 : T ≤ 99) (L9 : L ≤ 99) : ∀ (f k : Nat) (t : Int32) (u w : Int64) (q : skQ) (ls : am_L) (h : am_H), (∀ i : Nat, i < L → rg_l h 162 i = lf i) → (∀ i : Nat, i < L → rg_v h 163 i = lk i) → (∀ t : Nat, t < T → rg_v h 9 t = fi t) → (∀ t : Nat, t < T → rg_v h 10 t = tm t) → (rg_v h 2 9).toInt = L → (rg_v h 2 12).toInt = T → rg_v h 161 0 = skA q a0_z → rg_v h 161 1 = skZ q b0_z → am_get ls 0 = some (.ref 161) → am_get ls 1 = some (.ref 2) → am_get ls 2 = some (.long u) → am_get ls 4 = some (.long w) → am_get ls 6 = some (.int l) → am_get ls 7 = some (.int t) → 0 ≤ t.toInt → t.toInt + k = T → rn f am_m117 12 ls [] h r h' → ∃ l2_z h2_z, am_get l2_z 0 = some (.ref 161) ∧ am_get l2_z 1 = some (.ref 2) ∧ am_get l2_z 2 = some (.long (skT fi tm (lf l.toNatClampNeg) l k t u w q).1) ∧ am_get l2_z 4 = some (.long (skT fi tm (lf l.toNatClampNeg) l k t u w q).2.1) ∧ am_get l2_z 6 = some (.int l) ∧ rn f am_m117 61 l2_z [] h2_z r h' ∧ rg_v h2_z 161 0 = skA (skT fi tm (lf l.toNatClampNeg) l k t u w q).2.2 a0_z ∧ rg_v h2_z 161 1 = skZ (skT fi tm (lf l.toNatClampNeg) l k t u w q).2.2 b0_z ∧ ∀ o k, ¬ (o = 161 ∧ (k = 0 ∨ k = 1)) → h2_z o k = h o k := by
  intro f
  induction f with
  | zero => intro k t u w q ls h E1 E2 E3 E4 eL eT Ea Eb g0_z g1_z g2_z g4_z g6_z g7_z t0_z tk hc_z; exact absurd hc_z rn_0
  | succ f ih_z =>
    intro k t u w q ls h E1 E2 E3 E4 eL eT Ea Eb g0_z g1_z g2_z g4_z g6_z g7_z t0_z tk hc_z
    have ct := rt_cl t0_z
    have cl := rt_cl l0_z
    have z0_z : (0 : Int32).toInt = 0 := by decide
    have z3_z : (3 : Int32).toInt = 3 := by decide
    replace hc_z := rn_iload (am_cur_of (i := (20, 2, .iload 7, (0, 0, 0), 0)) (by decide +kernel)) g7_z hc_z
    replace hc_z := rn_aload_n (am_cur_of (i := (22, 1, .aload_n 1, (0, 0, 0), 0)) (by decide +kernel)) g1_z hc_z
    replace hc_z := rn_getI (v := rg_v h 2 12) (am_cur_of (i := (23, 3, .getfield 51, (1, 12, 295), 0)) (by decide +kernel)) (by decide +kernel) rfl hc_z
    replace hc_z := rn_cmp (am_cur_of (i := (26, 3, .if_icmp .ge 82, (61, 0, 0), 0)) (by decide +kernel)) hc_z
    rcases hc_z with ⟨b1_z, hc_z⟩ | ⟨b1_z, hc_z⟩
    · replace b1_z : (rg_v h 2 12).toInt ≤ t.toInt := b1_z
      obtain rfl : k = 0 := by omega
      exact ⟨_, _, g0_z, g1_z, g2_z, g4_z, g6_z, hc_z, Ea, Eb, fun _ _ _ => rfl⟩
    · replace b1_z : t.toInt < (rg_v h 2 12).toInt := b1_z
      obtain ⟨k, rfl⟩ : ∃ k2_z, k = k2_z + 1 := ⟨k - 1, by omega⟩
      have c1_z := rt_c1 t0_z (by omega)
      replace hc_z := rn_aload_n (am_cur_of (i := (29, 1, .aload_n 0, (0, 0, 0), 0)) (by decide +kernel)) g0_z hc_z
      replace hc_z := rn_getR (x := 163) (am_cur_of (i := (30, 3, .getfield 15, (11, 3, 647), 0)) (by decide +kernel)) (by decide +kernel) hc_z
      replace hc_z := rn_iload (am_cur_of (i := (33, 2, .iload 6, (0, 0, 0), 0)) (by decide +kernel)) g6_z hc_z
      replace hc_z := rn_iaload (N := 6) (q := l.toNatClampNeg) (v := lk l.toNatClampNeg) (am_cur_of (i := (35, 1, .iaload, (0, 0, 0), 0)) (by decide +kernel)) (by decide +kernel) rfl (E2 l.toNatClampNeg (by omega)) hc_z
      obtain ⟨p2_z, hc_z⟩ := hc_z
      replace hc_z := rn_iconst (w := 3) (am_cur_of (i := (36, 1, .iconst 3, (0, 0, 0), 0)) (by decide +kernel)) (by decide) hc_z
      replace hc_z := rn_cmp (am_cur_of (i := (37, 3, .if_icmp .ge 71, (61, 0, 0), 0)) (by decide +kernel)) hc_z
      rcases hc_z with ⟨b3_z, hc_z⟩ | ⟨b3_z, hc_z⟩
      · replace b3_z : (3 : Int32).toInt ≤ (lk l.toNatClampNeg).toInt := b3_z
        omega
      · replace b3_z : (lk l.toNatClampNeg).toInt < (3 : Int32).toInt := b3_z
        replace hc_z := rn_aload_n (am_cur_of (i := (40, 1, .aload_n 0, (0, 0, 0), 0)) (by decide +kernel)) g0_z hc_z
        replace hc_z := rn_getR (x := 162) (am_cur_of (i := (41, 3, .getfield 9, (11, 2, 646), 0)) (by decide +kernel)) (by decide +kernel) hc_z
        replace hc_z := rn_iload (am_cur_of (i := (44, 2, .iload 6, (0, 0, 0), 0)) (by decide +kernel)) g6_z hc_z
        replace hc_z := rn_laload (N := 6) (q := l.toNatClampNeg) (v := lf l.toNatClampNeg) (am_cur_of (i := (46, 1, .laload, (0, 0, 0), 0)) (by decide +kernel)) (by decide +kernel) rfl (E1 l.toNatClampNeg (by omega)) hc_z
        obtain ⟨p4_z, hc_z⟩ := hc_z
        replace hc_z := rn_aload_n (am_cur_of (i := (47, 1, .aload_n 1, (0, 0, 0), 0)) (by decide +kernel)) g1_z hc_z
        replace hc_z := rn_getR (x := 9) (am_cur_of (i := (48, 3, .getfield 43, (1, 14, 301), 0)) (by decide +kernel)) (by decide +kernel) hc_z
        replace hc_z := rn_iload (am_cur_of (i := (51, 2, .iload 7, (0, 0, 0), 0)) (by decide +kernel)) g7_z hc_z
        replace hc_z := rn_iaload (N := 3) (q := t.toNatClampNeg) (v := fi t.toNatClampNeg) (am_cur_of (i := (53, 1, .iaload, (0, 0, 0), 0)) (by decide +kernel)) (by decide +kernel) rfl (E3 t.toNatClampNeg (by omega)) hc_z
        obtain ⟨p5_z, hc_z⟩ := hc_z
        replace hc_z := rn_i2l (w := (fi t.toNatClampNeg).toInt64) (am_cur_of (i := (54, 1, .i2l, (0, 0, 0), 0)) (by decide +kernel)) rfl hc_z
        replace hc_z := rn_lmul (w := (lf l.toNatClampNeg) * ((fi t.toNatClampNeg).toInt64)) (am_cur_of (i := (55, 1, .lmul, (0, 0, 0), 0)) (by decide +kernel)) rfl hc_z
        replace hc_z := rn_lstore (am_cur_of (i := (56, 2, .lstore 8, (0, 0, 0), 0)) (by decide +kernel)) hc_z
        obtain ⟨_, s6_z, s7_z, g8_z, hc_z⟩ := hc_z
        replace g0_z := s6_z 0 _ (by decide) (by decide) rfl g0_z
        replace g1_z := s6_z 1 _ (by decide) (by decide) rfl g1_z
        replace g2_z := s7_z 2 _ (by decide) (by decide) (by decide) g2_z
        replace g4_z := s7_z 4 _ (by decide) (by decide) (by decide) g4_z
        replace g6_z := s6_z 6 _ (by decide) (by decide) rfl g6_z
        replace g7_z := s6_z 7 _ (by decide) (by decide) rfl g7_z
        clear s6_z s7_z
        replace hc_z := rn_lload (am_cur_of (i := (58, 2, .lload 8, (0, 0, 0), 0)) (by decide +kernel)) g8_z hc_z
        replace hc_z := rn_lload (am_cur_of (i := (60, 2, .lload 4, (0, 0, 0), 0)) (by decide +kernel)) g4_z hc_z
        replace hc_z := rn_lmul (w := ((lf l.toNatClampNeg) * ((fi t.toNatClampNeg).toInt64)) * w) (am_cur_of (i := (62, 1, .lmul, (0, 0, 0), 0)) (by decide +kernel)) rfl hc_z
        replace hc_z := rn_lload_n (am_cur_of (i := (63, 1, .lload_n 2, (0, 0, 0), 0)) (by decide +kernel)) g2_z hc_z
        replace hc_z := rn_aload_n (am_cur_of (i := (64, 1, .aload_n 1, (0, 0, 0), 0)) (by decide +kernel)) g1_z hc_z
        replace hc_z := rn_getR (x := 10) (am_cur_of (i := (65, 3, .getfield 54, (1, 15, 304), 0)) (by decide +kernel)) (by decide +kernel) hc_z
        replace hc_z := rn_iload (am_cur_of (i := (68, 2, .iload 7, (0, 0, 0), 0)) (by decide +kernel)) g7_z hc_z
        replace hc_z := rn_iaload (N := 3) (q := t.toNatClampNeg) (v := tm t.toNatClampNeg) (am_cur_of (i := (70, 1, .iaload, (0, 0, 0), 0)) (by decide +kernel)) (by decide +kernel) rfl (E4 t.toNatClampNeg (by omega)) hc_z
        obtain ⟨p8_z, hc_z⟩ := hc_z
        replace hc_z := rn_i2l (w := (tm t.toNatClampNeg).toInt64) (am_cur_of (i := (71, 1, .i2l, (0, 0, 0), 0)) (by decide +kernel)) rfl hc_z
        replace hc_z := rn_lmul (w := u * ((tm t.toNatClampNeg).toInt64)) (am_cur_of (i := (72, 1, .lmul, (0, 0, 0), 0)) (by decide +kernel)) rfl hc_z
        replace hc_z := rn_lcmp (w := lg_cmp (((lf l.toNatClampNeg) * ((fi t.toNatClampNeg).toInt64)) * w) (u * ((tm t.toNatClampNeg).toInt64))) (am_cur_of (i := (73, 1, .lcmp, (0, 0, 0), 0)) (by decide +kernel)) rfl hc_z
        replace hc_z := rn_if (am_cur_of (i := (74, 3, .ifCond .le 28, (59, 0, 0), 0)) (by decide +kernel)) hc_z
        rcases hc_z with ⟨b9_z, hc_z⟩ | ⟨b9_z, hc_z⟩
        · replace b9_z : (lg_cmp (((lf l.toNatClampNeg) * ((fi t.toNatClampNeg).toInt64)) * w) (u * ((tm t.toNatClampNeg).toInt64))).toInt ≤ (0 : Int32).toInt := b9_z
          replace hc_z := rn_iinc (w := t + 1) (am_cur_of (i := (102, 3, .iinc 7 1, (0, 0, 0), 0)) (by decide +kernel)) g7_z rfl hc_z
          obtain ⟨_, s10_z, s11_z, g7_z, hc_z⟩ := hc_z
          replace g0_z := s10_z 0 _ (by decide) rfl g0_z
          replace g1_z := s10_z 1 _ (by decide) rfl g1_z
          replace g2_z := s11_z 2 _ (by decide) (by decide) g2_z
          replace g4_z := s11_z 4 _ (by decide) (by decide) g4_z
          replace g6_z := s10_z 6 _ (by decide) rfl g6_z
          replace g8_z := s11_z 8 _ (by decide) (by decide) g8_z
          clear s10_z s11_z
          replace hc_z := rn_gotoL (am_cur_of (i := (105, 3, .goto (-85), (12, 0, 0), 0)) (by decide +kernel)) hc_z
          have st : skT fi tm (lf l.toNatClampNeg) l (k + 1) t u w q = skT fi tm (lf l.toNatClampNeg) l k (t + 1) u w q := skT_0 (show ¬ 0 < (lg_cmp (lf l.toNatClampNeg * (fi t.toNatClampNeg).toInt64 * w) (u * (tm t.toNatClampNeg).toInt64)).toInt by omega)
          rw [st]
          obtain ⟨l2_z, h2_z, f0_z, f1_z, f2_z, f3_z, f4_z, f5_z, f6_z, f7_z, f8_z⟩ := ih_z k (t + 1) u w q _ _ E1 E2 E3 E4 eL eT Ea Eb g0_z g1_z g2_z g4_z g6_z g7_z (by omega) (by omega) hc_z
          exact ⟨l2_z, h2_z, f0_z, f1_z, f2_z, f3_z, f4_z, rn_up (Nat.le_succ _) f5_z, f6_z, f7_z, f8_z⟩
        · replace b9_z : (0 : Int32).toInt < (lg_cmp (((lf l.toNatClampNeg) * ((fi t.toNatClampNeg).toInt64)) * w) (u * ((tm t.toNatClampNeg).toInt64))).toInt := b9_z
          replace hc_z := rn_lload (am_cur_of (i := (77, 2, .lload 8, (0, 0, 0), 0)) (by decide +kernel)) g8_z hc_z
          replace hc_z := rn_lstore_n (am_cur_of (i := (79, 1, .lstore_n 2, (0, 0, 0), 0)) (by decide +kernel)) hc_z
          obtain ⟨_, s12_z, s13_z, g2_z, hc_z⟩ := hc_z
          replace g0_z := s12_z 0 _ (by decide) (by decide) rfl g0_z
          replace g1_z := s12_z 1 _ (by decide) (by decide) rfl g1_z
          replace g4_z := s13_z 4 _ (by decide) (by decide) (by decide) g4_z
          replace g6_z := s12_z 6 _ (by decide) (by decide) rfl g6_z
          replace g7_z := s12_z 7 _ (by decide) (by decide) rfl g7_z
          replace g8_z := s13_z 8 _ (by decide) (by decide) (by decide) g8_z
          clear s12_z s13_z
          replace hc_z := rn_aload_n (am_cur_of (i := (80, 1, .aload_n 1, (0, 0, 0), 0)) (by decide +kernel)) g1_z hc_z
          replace hc_z := rn_getR (x := 10) (am_cur_of (i := (81, 3, .getfield 54, (1, 15, 304), 0)) (by decide +kernel)) (by decide +kernel) hc_z
          replace hc_z := rn_iload (am_cur_of (i := (84, 2, .iload 7, (0, 0, 0), 0)) (by decide +kernel)) g7_z hc_z
          replace hc_z := rn_iaload (N := 3) (q := t.toNatClampNeg) (v := tm t.toNatClampNeg) (am_cur_of (i := (86, 1, .iaload, (0, 0, 0), 0)) (by decide +kernel)) (by decide +kernel) rfl (E4 t.toNatClampNeg (by omega)) hc_z
          obtain ⟨p14_z, hc_z⟩ := hc_z
          replace hc_z := rn_i2l (w := (tm t.toNatClampNeg).toInt64) (am_cur_of (i := (87, 1, .i2l, (0, 0, 0), 0)) (by decide +kernel)) rfl hc_z
          replace hc_z := rn_lstore (am_cur_of (i := (88, 2, .lstore 4, (0, 0, 0), 0)) (by decide +kernel)) hc_z
          obtain ⟨_, s15_z, s16_z, g4_z, hc_z⟩ := hc_z
          replace g0_z := s15_z 0 _ (by decide) (by decide) rfl g0_z
          replace g1_z := s15_z 1 _ (by decide) (by decide) rfl g1_z
          replace g2_z := s16_z 2 _ (by decide) (by decide) (by decide) g2_z
          replace g6_z := s15_z 6 _ (by decide) (by decide) rfl g6_z
          replace g7_z := s15_z 7 _ (by decide) (by decide) rfl g7_z
          replace g8_z := s16_z 8 _ (by decide) (by decide) (by decide) g8_z
          clear s15_z s16_z
          replace hc_z := rn_aload_n (am_cur_of (i := (90, 1, .aload_n 0, (0, 0, 0), 0)) (by decide +kernel)) g0_z hc_z
          replace hc_z := rn_iload (am_cur_of (i := (91, 2, .iload 6, (0, 0, 0), 0)) (by decide +kernel)) g6_z hc_z
          replace hc_z := rn_put (am_cur_of (i := (93, 3, .putfield 40, (11, 0, 642), 0)) (by decide +kernel)) (by decide +kernel) hc_z
          replace hc_z := rn_aload_n (am_cur_of (i := (96, 1, .aload_n 0, (0, 0, 0), 0)) (by decide +kernel)) g0_z hc_z
          replace hc_z := rn_iload (am_cur_of (i := (97, 2, .iload 7, (0, 0, 0), 0)) (by decide +kernel)) g7_z hc_z
          replace hc_z := rn_put (am_cur_of (i := (99, 3, .putfield 46, (11, 1, 644), 0)) (by decide +kernel)) (by decide +kernel) hc_z
          replace hc_z := rn_iinc (w := t + 1) (am_cur_of (i := (102, 3, .iinc 7 1, (0, 0, 0), 0)) (by decide +kernel)) g7_z rfl hc_z
          obtain ⟨_, s17_z, s18_z, g7_z, hc_z⟩ := hc_z
          replace g0_z := s17_z 0 _ (by decide) rfl g0_z
          replace g1_z := s17_z 1 _ (by decide) rfl g1_z
          replace g2_z := s18_z 2 _ (by decide) (by decide) g2_z
          replace g4_z := s18_z 4 _ (by decide) (by decide) g4_z
          replace g6_z := s17_z 6 _ (by decide) rfl g6_z
          replace g8_z := s18_z 8 _ (by decide) (by decide) g8_z
          clear s17_z s18_z
          replace hc_z := rn_gotoL (am_cur_of (i := (105, 3, .goto (-85), (12, 0, 0), 0)) (by decide +kernel)) hc_z
          have st : skT fi tm (lf l.toNatClampNeg) l (k + 1) t u w q = skT fi tm (lf l.toNatClampNeg) l k (t + 1) (lf l.toNatClampNeg * (fi t.toNatClampNeg).toInt64) (tm t.toNatClampNeg).toInt64 (some (l, t)) := skT_1 (show 0 < (lg_cmp (lf l.toNatClampNeg * (fi t.toNatClampNeg).toInt64 * w) (u * (tm t.toNatClampNeg).toInt64)).toInt by omega)
          rw [st]
          obtain ⟨l2_z, h2_z, f0_z, f1_z, f2_z, f3_z, f4_z, f5_z, f6_z, f7_z, f8_z⟩ := ih_z k (t + 1) (lf l.toNatClampNeg * (fi t.toNatClampNeg).toInt64) (tm t.toNatClampNeg).toInt64 (some (l, t)) _ (am_up (am_up h 161 0 (.int l)) 161 1 (.int t)) (fun i hi_z => (rg_l_other (by omega)).trans ((rg_l_other (by omega)).trans (E1 i hi_z))) (fun i hi_z => (rg_v_other (by omega)).trans ((rg_v_other (by omega)).trans (E2 i hi_z))) (fun i hi_z => (rg_v_other (by omega)).trans ((rg_v_other (by omega)).trans (E3 i hi_z))) (fun i hi_z => (rg_v_other (by omega)).trans ((rg_v_other (by omega)).trans (E4 i hi_z))) ((congrArg Int32.toInt ((rg_v_other (by omega)).trans ((rg_v_other (by omega)).trans (rfl)))).trans eL) ((congrArg Int32.toInt ((rg_v_other (by omega)).trans ((rg_v_other (by omega)).trans (rfl)))).trans eT) (((rg_v_other (by omega)).trans (rg_v_self))) (rg_v_self) g0_z g1_z g2_z g4_z g6_z g7_z (by omega) (by omega) hc_z
          exact ⟨l2_z, h2_z, f0_z, f1_z, f2_z, f3_z, f4_z, rn_up (Nat.le_succ _) f5_z, f6_z, f7_z, fun o k ho => (f8_z o k ho).trans ((up_ne (by omega)).trans ((up_ne (by omega)).trans (rfl)))⟩
theorem sk_x61_2 {f : Nat} {r : Option Value} {h h' : am_H} {ls : am_L} {u w : Int64} {l : Int32} (g0_z : am_get ls 0 = some (.ref 161)) (g1_z : am_get ls 1 = some (.ref 2)) (g2_z : am_get ls 2 = some (.long u)) (g4_z : am_get ls 4 = some (.long w)) (g6_z : am_get ls 6 = some (.int l)) (hc_z : rn (f + 1) am_m117 61 ls [] h r h') : ∃ l3_z, am_get l3_z 0 = some (.ref 161) ∧ am_get l3_z 1 = some (.ref 2) ∧ am_get l3_z 2 = some (.long u) ∧ am_get l3_z 4 = some (.long w) ∧ am_get l3_z 6 = some (.int (l + 1)) ∧ rn f am_m117 6 l3_z [] h r h' := by
  replace hc_z := rn_iinc (w := l + 1) (am_cur_of (i := (108, 3, .iinc 6 1, (0, 0, 0), 0)) (by decide +kernel)) g6_z rfl hc_z
  obtain ⟨_, s27_z, s28_z, g6_z, hc_z⟩ := hc_z
  replace g0_z := s27_z 0 _ (by decide) rfl g0_z
  replace g1_z := s27_z 1 _ (by decide) rfl g1_z
  replace g2_z := s28_z 2 _ (by decide) (by decide) g2_z
  replace g4_z := s28_z 4 _ (by decide) (by decide) g4_z
  clear s27_z s28_z
  replace hc_z := rn_gotoL (am_cur_of (i := (111, 3, .goto (-103), (6, 0, 0), 0)) (by decide +kernel)) hc_z
  exact ⟨_, g0_z, g1_z, g2_z, g4_z, g6_z, hc_z⟩
theorem sk_y12_2 {f : Nat} {r : Option Value} {h h' : am_H} {ls : am_L} {u w : Int64} {l t : Int32} {lk : Nat → Int32} {L : Nat} (h3_z : ¬ (lk l.toNatClampNeg).toInt < 3) (E2 : ∀ i : Nat, i < L → rg_v h 163 i = lk i) (hl_z : l.toNatClampNeg < L) (cl : (l.toNatClampNeg : Int) = l.toInt) (g0_z : am_get ls 0 = some (.ref 161)) (g1_z : am_get ls 1 = some (.ref 2)) (g2_z : am_get ls 2 = some (.long u)) (g4_z : am_get ls 4 = some (.long w)) (g6_z : am_get ls 6 = some (.int l)) (g7_z : am_get ls 7 = some (.int t)) (hc_z : rn (f + 1) am_m117 12 ls [] h r h') : ∃ l3_z, am_get l3_z 0 = some (.ref 161) ∧ am_get l3_z 1 = some (.ref 2) ∧ am_get l3_z 2 = some (.long u) ∧ am_get l3_z 4 = some (.long w) ∧ am_get l3_z 6 = some (.int (l + 1)) ∧ rn f am_m117 6 l3_z [] h r h' := by
  have z3_z : (3 : Int32).toInt = 3 := by decide
  replace hc_z := rn_iload (am_cur_of (i := (20, 2, .iload 7, (0, 0, 0), 0)) (by decide +kernel)) g7_z hc_z
  replace hc_z := rn_aload_n (am_cur_of (i := (22, 1, .aload_n 1, (0, 0, 0), 0)) (by decide +kernel)) g1_z hc_z
  replace hc_z := rn_getI (v := rg_v h 2 12) (am_cur_of (i := (23, 3, .getfield 51, (1, 12, 295), 0)) (by decide +kernel)) (by decide +kernel) rfl hc_z
  replace hc_z := rn_cmp (am_cur_of (i := (26, 3, .if_icmp .ge 82, (61, 0, 0), 0)) (by decide +kernel)) hc_z
  rcases hc_z with ⟨b29_z, hc_z⟩ | ⟨b29_z, hc_z⟩
  · replace b29_z : (rg_v h 2 12).toInt ≤ t.toInt := b29_z
    replace hc_z := rn_iinc (w := l + 1) (am_cur_of (i := (108, 3, .iinc 6 1, (0, 0, 0), 0)) (by decide +kernel)) g6_z rfl hc_z
    obtain ⟨_, s30_z, s31_z, g6_z, hc_z⟩ := hc_z
    replace g0_z := s30_z 0 _ (by decide) rfl g0_z
    replace g1_z := s30_z 1 _ (by decide) rfl g1_z
    replace g2_z := s31_z 2 _ (by decide) (by decide) g2_z
    replace g4_z := s31_z 4 _ (by decide) (by decide) g4_z
    replace g7_z := s30_z 7 _ (by decide) rfl g7_z
    clear s30_z s31_z
    replace hc_z := rn_gotoL (am_cur_of (i := (111, 3, .goto (-103), (6, 0, 0), 0)) (by decide +kernel)) hc_z
    exact ⟨_, g0_z, g1_z, g2_z, g4_z, g6_z, hc_z⟩
  · replace b29_z : t.toInt < (rg_v h 2 12).toInt := b29_z
    replace hc_z := rn_aload_n (am_cur_of (i := (29, 1, .aload_n 0, (0, 0, 0), 0)) (by decide +kernel)) g0_z hc_z
    replace hc_z := rn_getR (x := 163) (am_cur_of (i := (30, 3, .getfield 15, (11, 3, 647), 0)) (by decide +kernel)) (by decide +kernel) hc_z
    replace hc_z := rn_iload (am_cur_of (i := (33, 2, .iload 6, (0, 0, 0), 0)) (by decide +kernel)) g6_z hc_z
    replace hc_z := rn_iaload (N := 6) (q := l.toNatClampNeg) (v := lk l.toNatClampNeg) (am_cur_of (i := (35, 1, .iaload, (0, 0, 0), 0)) (by decide +kernel)) (by decide +kernel) rfl (E2 l.toNatClampNeg (by omega)) hc_z
    obtain ⟨p32_z, hc_z⟩ := hc_z
    replace hc_z := rn_iconst (w := 3) (am_cur_of (i := (36, 1, .iconst 3, (0, 0, 0), 0)) (by decide +kernel)) (by decide) hc_z
    replace hc_z := rn_cmp (am_cur_of (i := (37, 3, .if_icmp .ge 71, (61, 0, 0), 0)) (by decide +kernel)) hc_z
    rcases hc_z with ⟨b33_z, hc_z⟩ | ⟨b33_z, hc_z⟩
    · replace b33_z : (3 : Int32).toInt ≤ (lk l.toNatClampNeg).toInt := b33_z
      replace hc_z := rn_iinc (w := l + 1) (am_cur_of (i := (108, 3, .iinc 6 1, (0, 0, 0), 0)) (by decide +kernel)) g6_z rfl hc_z
      obtain ⟨_, s34_z, s35_z, g6_z, hc_z⟩ := hc_z
      replace g0_z := s34_z 0 _ (by decide) rfl g0_z
      replace g1_z := s34_z 1 _ (by decide) rfl g1_z
      replace g2_z := s35_z 2 _ (by decide) (by decide) g2_z
      replace g4_z := s35_z 4 _ (by decide) (by decide) g4_z
      replace g7_z := s34_z 7 _ (by decide) rfl g7_z
      clear s34_z s35_z
      replace hc_z := rn_gotoL (am_cur_of (i := (111, 3, .goto (-103), (6, 0, 0), 0)) (by decide +kernel)) hc_z
      exact ⟨_, g0_z, g1_z, g2_z, g4_z, g6_z, hc_z⟩
    · replace b33_z : (lk l.toNatClampNeg).toInt < (3 : Int32).toInt := b33_z
      exact absurd b33_z (by omega)
theorem sk_l2 {r : Option Value} {h' : am_H} {lf : Nat → Int64} {lk fi tm : Nat → Int32} {L T : Nat} {a0_z b0_z : Int32} (T9 : T ≤ 99) (L9 : L ≤ 99) : ∀ (f k : Nat) (l : Int32) (u w : Int64) (q : skQ) (ls : am_L) (h : am_H), (∀ i : Nat, i < L → rg_l h 162 i = lf i) → (∀ i : Nat, i < L → rg_v h 163 i = lk i) → (∀ t : Nat, t < T → rg_v h 9 t = fi t) → (∀ t : Nat, t < T → rg_v h 10 t = tm t) → (rg_v h 2 9).toInt = L → (rg_v h 2 12).toInt = T → rg_v h 161 0 = skA q a0_z → rg_v h 161 1 = skZ q b0_z → am_get ls 0 = some (.ref 161) → am_get ls 1 = some (.ref 2) → am_get ls 2 = some (.long u) → am_get ls 4 = some (.long w) → am_get ls 6 = some (.int l) → 0 ≤ l.toInt → l.toInt + k = L → rn f am_m117 6 ls [] h r h' → r = some (.int (if 0 < (lg_cmp (skL lf lk fi tm T k l u w q).1 0).toInt then 1 else 0)) ∧ rg_v h' 161 0 = skA (skL lf lk fi tm T k l u w q).2.2 a0_z ∧ rg_v h' 161 1 = skZ (skL lf lk fi tm T k l u w q).2.2 b0_z ∧ ∀ o k, ¬ (o = 161 ∧ (k = 0 ∨ k = 1)) → h' o k = h o k := by
  intro f
  induction f with
  | zero => intro k l u w q ls h E1 E2 E3 E4 eL eT Ea Eb g0_z g1_z g2_z g4_z g6_z l0_z lk_ hc_z; exact absurd hc_z rn_0
  | succ f ih_z =>
    intro k l u w q ls h E1 E2 E3 E4 eL eT Ea Eb g0_z g1_z g2_z g4_z g6_z l0_z lk_ hc_z
    have cl := rt_cl l0_z
    have z0_z : (0 : Int32).toInt = 0 := by decide
    replace hc_z := rn_iload (am_cur_of (i := (8, 2, .iload 6, (0, 0, 0), 0)) (by decide +kernel)) g6_z hc_z
    replace hc_z := rn_aload_n (am_cur_of (i := (10, 1, .aload_n 1, (0, 0, 0), 0)) (by decide +kernel)) g1_z hc_z
    replace hc_z := rn_getI (v := rg_v h 2 9) (am_cur_of (i := (11, 3, .getfield 19, (1, 9, 283), 0)) (by decide +kernel)) (by decide +kernel) rfl hc_z
    replace hc_z := rn_cmp (am_cur_of (i := (14, 3, .if_icmp .ge 100, (63, 0, 0), 0)) (by decide +kernel)) hc_z
    rcases hc_z with ⟨b19_z, hc_z⟩ | ⟨b19_z, hc_z⟩
    · replace b19_z : (rg_v h 2 9).toInt ≤ l.toInt := b19_z
      obtain rfl : k = 0 := by omega
      replace hc_z := rn_lload_n (am_cur_of (i := (114, 1, .lload_n 2, (0, 0, 0), 0)) (by decide +kernel)) g2_z hc_z
      replace hc_z := rn_lconst (w := 0) (am_cur_of (i := (115, 1, .lconst 0, (0, 0, 0), 0)) (by decide +kernel)) rfl hc_z
      replace hc_z := rn_lcmp (w := lg_cmp u 0) (am_cur_of (i := (116, 1, .lcmp, (0, 0, 0), 0)) (by decide +kernel)) rfl hc_z
      replace hc_z := rn_if (am_cur_of (i := (117, 3, .ifCond .le 7, (69, 0, 0), 0)) (by decide +kernel)) hc_z
      rcases hc_z with ⟨b20_z, hc_z⟩ | ⟨b20_z, hc_z⟩
      · replace b20_z : (lg_cmp u 0).toInt ≤ (0 : Int32).toInt := b20_z
        replace hc_z := rn_iconst (w := 0) (am_cur_of (i := (124, 1, .iconst 0, (0, 0, 0), 0)) (by decide +kernel)) (by decide) hc_z
        replace hc_z := rn_iret (am_cur_of (i := (125, 1, .ireturn, (0, 0, 0), 0)) (by decide +kernel)) hc_z
        obtain ⟨e21_z, e22_z⟩ := hc_z
        rw [e22_z]
        exact ⟨e21_z.trans (congrArg (fun q => some (Value.int q)) (if_neg (show ¬ 0 < (lg_cmp u 0).toInt by omega)).symm), Ea, Eb, fun _ _ _ => rfl⟩
      · replace b20_z : (0 : Int32).toInt < (lg_cmp u 0).toInt := b20_z
        replace hc_z := rn_iconst (w := 1) (am_cur_of (i := (120, 1, .iconst 1, (0, 0, 0), 0)) (by decide +kernel)) (by decide) hc_z
        replace hc_z := rn_goto (am_cur_of (i := (121, 3, .goto 4, (70, 0, 0), 0)) (by decide +kernel)) hc_z
        replace hc_z := rn_iret (am_cur_of (i := (125, 1, .ireturn, (0, 0, 0), 0)) (by decide +kernel)) hc_z
        obtain ⟨e23_z, e24_z⟩ := hc_z
        rw [e24_z]
        exact ⟨e23_z.trans (congrArg (fun q => some (Value.int q)) (if_pos (show 0 < (lg_cmp u 0).toInt by omega)).symm), Ea, Eb, fun _ _ _ => rfl⟩
    · replace b19_z : l.toInt < (rg_v h 2 9).toInt := b19_z
      obtain ⟨k, rfl⟩ : ∃ k2_z, k = k2_z + 1 := ⟨k - 1, by omega⟩
      have c1_z := rt_c1 l0_z (by omega)
      replace hc_z := rn_iconst (w := 0) (am_cur_of (i := (17, 1, .iconst 0, (0, 0, 0), 0)) (by decide +kernel)) (by decide) hc_z
      replace hc_z := rn_istore (am_cur_of (i := (18, 2, .istore 7, (0, 0, 0), 0)) (by decide +kernel)) hc_z
      obtain ⟨_, s25_z, s26_z, g7_z, hc_z⟩ := hc_z
      replace g0_z := s25_z 0 _ (by decide) rfl g0_z
      replace g1_z := s25_z 1 _ (by decide) rfl g1_z
      replace g2_z := s26_z 2 _ (by decide) (by decide) g2_z
      replace g4_z := s26_z 4 _ (by decide) (by decide) g4_z
      replace g6_z := s25_z 6 _ (by decide) rfl g6_z
      clear s25_z s26_z
      by_cases h3_z : (lk l.toNatClampNeg).toInt < 3
      · obtain ⟨l2_z, h2_z, f0_z, f1_z, f2_z, f3_z, f4_z, hc2_z, f6_z, f7_z, f8_z⟩ := sk_t2 (a0_z := a0_z) (b0_z := b0_z) (by omega) l0_z h3_z T9 L9 _ T 0 u w q _ _ E1 E2 E3 E4 eL eT Ea Eb g0_z g1_z g2_z g4_z g6_z g7_z (by decide) (by rw [show (0 : Int32).toInt = 0 by decide]; omega) hc_z
        rw [skL_1 h3_z]
        have fv : ∀ o k, ¬ o = 161 → rg_v h2_z o k = rg_v h o k := by
          intro o k e
          unfold rg_v
          rw [f8_z o k (by omega)]
        have fl : ∀ k, rg_l h2_z 162 k = rg_l h 162 k := by
          intro k
          unfold rg_l
          rw [f8_z 162 k (by omega)]
        have sX := sk_x61_2 f0_z f1_z f2_z f3_z f4_z hc2_z
        obtain ⟨l3_z, g0_z', g1_z', g2_z', g4_z', g6_z', hc3_z⟩ := sX
        obtain ⟨z1_z, z2_z, z3_z, z4_z⟩ := ih_z k (l + 1) _ _ _ l3_z h2_z (fun i hi_z => (fl i).trans (E1 i hi_z)) (fun i hi_z => (fv 163 i (by omega)).trans (E2 i hi_z)) (fun i hi_z => (fv 9 i (by omega)).trans (E3 i hi_z)) (fun i hi_z => (fv 10 i (by omega)).trans (E4 i hi_z)) ((congrArg Int32.toInt (fv 2 9 (by omega))).trans eL) ((congrArg Int32.toInt (fv 2 12 (by omega))).trans eT) f6_z f7_z g0_z' g1_z' g2_z' g4_z' g6_z' (by omega) (by omega) hc3_z
        exact ⟨z1_z, z2_z, z3_z, fun o k ho => (z4_z o k ho).trans (f8_z o k ho)⟩
      · rw [skL_0 h3_z]
        obtain ⟨l3_z, g0_z', g1_z', g2_z', g4_z', g6_z', hc3_z⟩ := sk_y12_2 (t := 0) h3_z E2 (by omega) cl g0_z g1_z g2_z g4_z g6_z g7_z hc_z
        exact ih_z k (l + 1) u w q l3_z _ E1 E2 E3 E4 eL eT Ea Eb g0_z' g1_z' g2_z' g4_z' g6_z' (by omega) (by omega) hc3_z
theorem sk_117_2 {n : Nat} {r : Option Value} {h h' : am_H} {lf : Nat → Int64} {lk fi tm : Nat → Int32} {L T : Nat} (T9 : T ≤ 99) (L9 : L ≤ 99) (E1 : ∀ i : Nat, i < L → rg_l h 162 i = lf i) (E2 : ∀ i : Nat, i < L → rg_v h 163 i = lk i) (E3 : ∀ t : Nat, t < T → rg_v h 9 t = fi t) (E4 : ∀ t : Nat, t < T → rg_v h 10 t = tm t) (eL : (rg_v h 2 9).toInt = L) (eT : (rg_v h 2 12).toInt = T) (hc_z : rn n am_m117 0 (lv_args 0 [.ref 161, .ref 2]) [] h r h') : r = some (.int (if 0 < (lg_cmp (skN lf lk fi tm L T).1 0).toInt then 1 else 0)) ∧ rg_v h' 161 0 = skA (skN lf lk fi tm L T).2.2 (rg_v h 161 0) ∧ rg_v h' 161 1 = skZ (skN lf lk fi tm L T).2.2 (rg_v h 161 1) ∧ ∀ o k, ¬ (o = 161 ∧ (k = 0 ∨ k = 1)) → h' o k = h o k := by
  have g0_z : am_get (lv_args 0 [.ref 161, .ref 2]) 0 = some (.ref 161) := rfl
  have g1_z : am_get (lv_args 0 [.ref 161, .ref 2]) 1 = some (.ref 2) := rfl
  replace hc_z := rn_lconst (w := 0) (am_cur_of (i := (0, 1, .lconst 0, (0, 0, 0), 0)) (by decide +kernel)) rfl hc_z
  replace hc_z := rn_lstore_n (am_cur_of (i := (1, 1, .lstore_n 2, (0, 0, 0), 0)) (by decide +kernel)) hc_z
  obtain ⟨_, s36_z, s37_z, g2_z, hc_z⟩ := hc_z
  replace g0_z := s36_z 0 _ (by decide) (by decide) rfl g0_z
  replace g1_z := s36_z 1 _ (by decide) (by decide) rfl g1_z
  clear s36_z s37_z
  replace hc_z := rn_lconst (w := 1) (am_cur_of (i := (2, 1, .lconst 1, (0, 0, 0), 0)) (by decide +kernel)) rfl hc_z
  replace hc_z := rn_lstore (am_cur_of (i := (3, 2, .lstore 4, (0, 0, 0), 0)) (by decide +kernel)) hc_z
  obtain ⟨_, s38_z, s39_z, g4_z, hc_z⟩ := hc_z
  replace g0_z := s38_z 0 _ (by decide) (by decide) rfl g0_z
  replace g1_z := s38_z 1 _ (by decide) (by decide) rfl g1_z
  replace g2_z := s39_z 2 _ (by decide) (by decide) (by decide) g2_z
  clear s38_z s39_z
  replace hc_z := rn_iconst (w := 0) (am_cur_of (i := (5, 1, .iconst 0, (0, 0, 0), 0)) (by decide +kernel)) (by decide) hc_z
  replace hc_z := rn_istore (am_cur_of (i := (6, 2, .istore 6, (0, 0, 0), 0)) (by decide +kernel)) hc_z
  obtain ⟨_, s40_z, s41_z, g6_z, hc_z⟩ := hc_z
  replace g0_z := s40_z 0 _ (by decide) rfl g0_z
  replace g1_z := s40_z 1 _ (by decide) rfl g1_z
  replace g2_z := s41_z 2 _ (by decide) (by decide) g2_z
  replace g4_z := s41_z 4 _ (by decide) (by decide) g4_z
  clear s40_z s41_z
  exact sk_l2 T9 L9 _ L 0 0 1 none _ _ E1 E2 E3 E4 eL eT rfl rfl g0_z g1_z g2_z g4_z g6_z (by decide) (by rw [show (0 : Int32).toInt = 0 by decide]; omega) hc_z
theorem sk_t23 {r : Option Value} {h' : am_H} {l : Int32} {lf : Nat → Int64} {lk fi tm : Nat → Int32} {L T : Nat} {a0_z b0_z : Int32} (hl_z : l.toNatClampNeg < L) (l0_z : 0 ≤ l.toInt) (h3_z : (lk l.toNatClampNeg).toInt < 3) (T9 : T ≤ 99) (L9 : L ≤ 99) : ∀ (f k : Nat) (t : Int32) (u w : Int64) (q : skQ) (ls : am_L) (h : am_H), (∀ i : Nat, i < L → rg_l h 162 i = lf i) → (∀ i : Nat, i < L → rg_v h 163 i = lk i) → (∀ t : Nat, t < T → rg_v h 30 t = fi t) → (∀ t : Nat, t < T → rg_v h 31 t = tm t) → (rg_v h 23 9).toInt = L → (rg_v h 23 12).toInt = T → rg_v h 161 0 = skA q a0_z → rg_v h 161 1 = skZ q b0_z → am_get ls 0 = some (.ref 161) → am_get ls 1 = some (.ref 23) → am_get ls 2 = some (.long u) → am_get ls 4 = some (.long w) → am_get ls 6 = some (.int l) → am_get ls 7 = some (.int t) → 0 ≤ t.toInt → t.toInt + k = T → rn f am_m117 12 ls [] h r h' → ∃ l2_z h2_z, am_get l2_z 0 = some (.ref 161) ∧ am_get l2_z 1 = some (.ref 23) ∧ am_get l2_z 2 = some (.long (skT fi tm (lf l.toNatClampNeg) l k t u w q).1) ∧ am_get l2_z 4 = some (.long (skT fi tm (lf l.toNatClampNeg) l k t u w q).2.1) ∧ am_get l2_z 6 = some (.int l) ∧ rn f am_m117 61 l2_z [] h2_z r h' ∧ rg_v h2_z 161 0 = skA (skT fi tm (lf l.toNatClampNeg) l k t u w q).2.2 a0_z ∧ rg_v h2_z 161 1 = skZ (skT fi tm (lf l.toNatClampNeg) l k t u w q).2.2 b0_z ∧ ∀ o k, ¬ (o = 161 ∧ (k = 0 ∨ k = 1)) → h2_z o k = h o k := by
  intro f
  induction f with
  | zero => intro k t u w q ls h E1 E2 E3 E4 eL eT Ea Eb g0_z g1_z g2_z g4_z g6_z g7_z t0_z tk hc_z; exact absurd hc_z rn_0
  | succ f ih_z =>
    intro k t u w q ls h E1 E2 E3 E4 eL eT Ea Eb g0_z g1_z g2_z g4_z g6_z g7_z t0_z tk hc_z
    have ct := rt_cl t0_z
    have cl := rt_cl l0_z
    have z0_z : (0 : Int32).toInt = 0 := by decide
    have z3_z : (3 : Int32).toInt = 3 := by decide
    replace hc_z := rn_iload (am_cur_of (i := (20, 2, .iload 7, (0, 0, 0), 0)) (by decide +kernel)) g7_z hc_z
    replace hc_z := rn_aload_n (am_cur_of (i := (22, 1, .aload_n 1, (0, 0, 0), 0)) (by decide +kernel)) g1_z hc_z
    replace hc_z := rn_getI (v := rg_v h 23 12) (am_cur_of (i := (23, 3, .getfield 51, (1, 12, 295), 0)) (by decide +kernel)) (by decide +kernel) rfl hc_z
    replace hc_z := rn_cmp (am_cur_of (i := (26, 3, .if_icmp .ge 82, (61, 0, 0), 0)) (by decide +kernel)) hc_z
    rcases hc_z with ⟨b42_z, hc_z⟩ | ⟨b42_z, hc_z⟩
    · replace b42_z : (rg_v h 23 12).toInt ≤ t.toInt := b42_z
      obtain rfl : k = 0 := by omega
      exact ⟨_, _, g0_z, g1_z, g2_z, g4_z, g6_z, hc_z, Ea, Eb, fun _ _ _ => rfl⟩
    · replace b42_z : t.toInt < (rg_v h 23 12).toInt := b42_z
      obtain ⟨k, rfl⟩ : ∃ k2_z, k = k2_z + 1 := ⟨k - 1, by omega⟩
      have c1_z := rt_c1 t0_z (by omega)
      replace hc_z := rn_aload_n (am_cur_of (i := (29, 1, .aload_n 0, (0, 0, 0), 0)) (by decide +kernel)) g0_z hc_z
      replace hc_z := rn_getR (x := 163) (am_cur_of (i := (30, 3, .getfield 15, (11, 3, 647), 0)) (by decide +kernel)) (by decide +kernel) hc_z
      replace hc_z := rn_iload (am_cur_of (i := (33, 2, .iload 6, (0, 0, 0), 0)) (by decide +kernel)) g6_z hc_z
      replace hc_z := rn_iaload (N := 6) (q := l.toNatClampNeg) (v := lk l.toNatClampNeg) (am_cur_of (i := (35, 1, .iaload, (0, 0, 0), 0)) (by decide +kernel)) (by decide +kernel) rfl (E2 l.toNatClampNeg (by omega)) hc_z
      obtain ⟨p43_z, hc_z⟩ := hc_z
      replace hc_z := rn_iconst (w := 3) (am_cur_of (i := (36, 1, .iconst 3, (0, 0, 0), 0)) (by decide +kernel)) (by decide) hc_z
      replace hc_z := rn_cmp (am_cur_of (i := (37, 3, .if_icmp .ge 71, (61, 0, 0), 0)) (by decide +kernel)) hc_z
      rcases hc_z with ⟨b44_z, hc_z⟩ | ⟨b44_z, hc_z⟩
      · replace b44_z : (3 : Int32).toInt ≤ (lk l.toNatClampNeg).toInt := b44_z
        omega
      · replace b44_z : (lk l.toNatClampNeg).toInt < (3 : Int32).toInt := b44_z
        replace hc_z := rn_aload_n (am_cur_of (i := (40, 1, .aload_n 0, (0, 0, 0), 0)) (by decide +kernel)) g0_z hc_z
        replace hc_z := rn_getR (x := 162) (am_cur_of (i := (41, 3, .getfield 9, (11, 2, 646), 0)) (by decide +kernel)) (by decide +kernel) hc_z
        replace hc_z := rn_iload (am_cur_of (i := (44, 2, .iload 6, (0, 0, 0), 0)) (by decide +kernel)) g6_z hc_z
        replace hc_z := rn_laload (N := 6) (q := l.toNatClampNeg) (v := lf l.toNatClampNeg) (am_cur_of (i := (46, 1, .laload, (0, 0, 0), 0)) (by decide +kernel)) (by decide +kernel) rfl (E1 l.toNatClampNeg (by omega)) hc_z
        obtain ⟨p45_z, hc_z⟩ := hc_z
        replace hc_z := rn_aload_n (am_cur_of (i := (47, 1, .aload_n 1, (0, 0, 0), 0)) (by decide +kernel)) g1_z hc_z
        replace hc_z := rn_getR (x := 30) (am_cur_of (i := (48, 3, .getfield 43, (1, 14, 301), 0)) (by decide +kernel)) (by decide +kernel) hc_z
        replace hc_z := rn_iload (am_cur_of (i := (51, 2, .iload 7, (0, 0, 0), 0)) (by decide +kernel)) g7_z hc_z
        replace hc_z := rn_iaload (N := 3) (q := t.toNatClampNeg) (v := fi t.toNatClampNeg) (am_cur_of (i := (53, 1, .iaload, (0, 0, 0), 0)) (by decide +kernel)) (by decide +kernel) rfl (E3 t.toNatClampNeg (by omega)) hc_z
        obtain ⟨p46_z, hc_z⟩ := hc_z
        replace hc_z := rn_i2l (w := (fi t.toNatClampNeg).toInt64) (am_cur_of (i := (54, 1, .i2l, (0, 0, 0), 0)) (by decide +kernel)) rfl hc_z
        replace hc_z := rn_lmul (w := (lf l.toNatClampNeg) * ((fi t.toNatClampNeg).toInt64)) (am_cur_of (i := (55, 1, .lmul, (0, 0, 0), 0)) (by decide +kernel)) rfl hc_z
        replace hc_z := rn_lstore (am_cur_of (i := (56, 2, .lstore 8, (0, 0, 0), 0)) (by decide +kernel)) hc_z
        obtain ⟨_, s47_z, s48_z, g8_z, hc_z⟩ := hc_z
        replace g0_z := s47_z 0 _ (by decide) (by decide) rfl g0_z
        replace g1_z := s47_z 1 _ (by decide) (by decide) rfl g1_z
        replace g2_z := s48_z 2 _ (by decide) (by decide) (by decide) g2_z
        replace g4_z := s48_z 4 _ (by decide) (by decide) (by decide) g4_z
        replace g6_z := s47_z 6 _ (by decide) (by decide) rfl g6_z
        replace g7_z := s47_z 7 _ (by decide) (by decide) rfl g7_z
        clear s47_z s48_z
        replace hc_z := rn_lload (am_cur_of (i := (58, 2, .lload 8, (0, 0, 0), 0)) (by decide +kernel)) g8_z hc_z
        replace hc_z := rn_lload (am_cur_of (i := (60, 2, .lload 4, (0, 0, 0), 0)) (by decide +kernel)) g4_z hc_z
        replace hc_z := rn_lmul (w := ((lf l.toNatClampNeg) * ((fi t.toNatClampNeg).toInt64)) * w) (am_cur_of (i := (62, 1, .lmul, (0, 0, 0), 0)) (by decide +kernel)) rfl hc_z
        replace hc_z := rn_lload_n (am_cur_of (i := (63, 1, .lload_n 2, (0, 0, 0), 0)) (by decide +kernel)) g2_z hc_z
        replace hc_z := rn_aload_n (am_cur_of (i := (64, 1, .aload_n 1, (0, 0, 0), 0)) (by decide +kernel)) g1_z hc_z
        replace hc_z := rn_getR (x := 31) (am_cur_of (i := (65, 3, .getfield 54, (1, 15, 304), 0)) (by decide +kernel)) (by decide +kernel) hc_z
        replace hc_z := rn_iload (am_cur_of (i := (68, 2, .iload 7, (0, 0, 0), 0)) (by decide +kernel)) g7_z hc_z
        replace hc_z := rn_iaload (N := 3) (q := t.toNatClampNeg) (v := tm t.toNatClampNeg) (am_cur_of (i := (70, 1, .iaload, (0, 0, 0), 0)) (by decide +kernel)) (by decide +kernel) rfl (E4 t.toNatClampNeg (by omega)) hc_z
        obtain ⟨p49_z, hc_z⟩ := hc_z
        replace hc_z := rn_i2l (w := (tm t.toNatClampNeg).toInt64) (am_cur_of (i := (71, 1, .i2l, (0, 0, 0), 0)) (by decide +kernel)) rfl hc_z
        replace hc_z := rn_lmul (w := u * ((tm t.toNatClampNeg).toInt64)) (am_cur_of (i := (72, 1, .lmul, (0, 0, 0), 0)) (by decide +kernel)) rfl hc_z
        replace hc_z := rn_lcmp (w := lg_cmp (((lf l.toNatClampNeg) * ((fi t.toNatClampNeg).toInt64)) * w) (u * ((tm t.toNatClampNeg).toInt64))) (am_cur_of (i := (73, 1, .lcmp, (0, 0, 0), 0)) (by decide +kernel)) rfl hc_z
        replace hc_z := rn_if (am_cur_of (i := (74, 3, .ifCond .le 28, (59, 0, 0), 0)) (by decide +kernel)) hc_z
        rcases hc_z with ⟨b50_z, hc_z⟩ | ⟨b50_z, hc_z⟩
        · replace b50_z : (lg_cmp (((lf l.toNatClampNeg) * ((fi t.toNatClampNeg).toInt64)) * w) (u * ((tm t.toNatClampNeg).toInt64))).toInt ≤ (0 : Int32).toInt := b50_z
          replace hc_z := rn_iinc (w := t + 1) (am_cur_of (i := (102, 3, .iinc 7 1, (0, 0, 0), 0)) (by decide +kernel)) g7_z rfl hc_z
          obtain ⟨_, s51_z, s52_z, g7_z, hc_z⟩ := hc_z
          replace g0_z := s51_z 0 _ (by decide) rfl g0_z
          replace g1_z := s51_z 1 _ (by decide) rfl g1_z
          replace g2_z := s52_z 2 _ (by decide) (by decide) g2_z
          replace g4_z := s52_z 4 _ (by decide) (by decide) g4_z
          replace g6_z := s51_z 6 _ (by decide) rfl g6_z
          replace g8_z := s52_z 8 _ (by decide) (by decide) g8_z
          clear s51_z s52_z
          replace hc_z := rn_gotoL (am_cur_of (i := (105, 3, .goto (-85), (12, 0, 0), 0)) (by decide +kernel)) hc_z
          have st : skT fi tm (lf l.toNatClampNeg) l (k + 1) t u w q = skT fi tm (lf l.toNatClampNeg) l k (t + 1) u w q := skT_0 (show ¬ 0 < (lg_cmp (lf l.toNatClampNeg * (fi t.toNatClampNeg).toInt64 * w) (u * (tm t.toNatClampNeg).toInt64)).toInt by omega)
          rw [st]
          obtain ⟨l2_z, h2_z, f0_z, f1_z, f2_z, f3_z, f4_z, f5_z, f6_z, f7_z, f8_z⟩ := ih_z k (t + 1) u w q _ _ E1 E2 E3 E4 eL eT Ea Eb g0_z g1_z g2_z g4_z g6_z g7_z (by omega) (by omega) hc_z
          exact ⟨l2_z, h2_z, f0_z, f1_z, f2_z, f3_z, f4_z, rn_up (Nat.le_succ _) f5_z, f6_z, f7_z, f8_z⟩
        · replace b50_z : (0 : Int32).toInt < (lg_cmp (((lf l.toNatClampNeg) * ((fi t.toNatClampNeg).toInt64)) * w) (u * ((tm t.toNatClampNeg).toInt64))).toInt := b50_z
          replace hc_z := rn_lload (am_cur_of (i := (77, 2, .lload 8, (0, 0, 0), 0)) (by decide +kernel)) g8_z hc_z
          replace hc_z := rn_lstore_n (am_cur_of (i := (79, 1, .lstore_n 2, (0, 0, 0), 0)) (by decide +kernel)) hc_z
          obtain ⟨_, s53_z, s54_z, g2_z, hc_z⟩ := hc_z
          replace g0_z := s53_z 0 _ (by decide) (by decide) rfl g0_z
          replace g1_z := s53_z 1 _ (by decide) (by decide) rfl g1_z
          replace g4_z := s54_z 4 _ (by decide) (by decide) (by decide) g4_z
          replace g6_z := s53_z 6 _ (by decide) (by decide) rfl g6_z
          replace g7_z := s53_z 7 _ (by decide) (by decide) rfl g7_z
          replace g8_z := s54_z 8 _ (by decide) (by decide) (by decide) g8_z
          clear s53_z s54_z
          replace hc_z := rn_aload_n (am_cur_of (i := (80, 1, .aload_n 1, (0, 0, 0), 0)) (by decide +kernel)) g1_z hc_z
          replace hc_z := rn_getR (x := 31) (am_cur_of (i := (81, 3, .getfield 54, (1, 15, 304), 0)) (by decide +kernel)) (by decide +kernel) hc_z
          replace hc_z := rn_iload (am_cur_of (i := (84, 2, .iload 7, (0, 0, 0), 0)) (by decide +kernel)) g7_z hc_z
          replace hc_z := rn_iaload (N := 3) (q := t.toNatClampNeg) (v := tm t.toNatClampNeg) (am_cur_of (i := (86, 1, .iaload, (0, 0, 0), 0)) (by decide +kernel)) (by decide +kernel) rfl (E4 t.toNatClampNeg (by omega)) hc_z
          obtain ⟨p55_z, hc_z⟩ := hc_z
          replace hc_z := rn_i2l (w := (tm t.toNatClampNeg).toInt64) (am_cur_of (i := (87, 1, .i2l, (0, 0, 0), 0)) (by decide +kernel)) rfl hc_z
          replace hc_z := rn_lstore (am_cur_of (i := (88, 2, .lstore 4, (0, 0, 0), 0)) (by decide +kernel)) hc_z
          obtain ⟨_, s56_z, s57_z, g4_z, hc_z⟩ := hc_z
          replace g0_z := s56_z 0 _ (by decide) (by decide) rfl g0_z
          replace g1_z := s56_z 1 _ (by decide) (by decide) rfl g1_z
          replace g2_z := s57_z 2 _ (by decide) (by decide) (by decide) g2_z
          replace g6_z := s56_z 6 _ (by decide) (by decide) rfl g6_z
          replace g7_z := s56_z 7 _ (by decide) (by decide) rfl g7_z
          replace g8_z := s57_z 8 _ (by decide) (by decide) (by decide) g8_z
          clear s56_z s57_z
          replace hc_z := rn_aload_n (am_cur_of (i := (90, 1, .aload_n 0, (0, 0, 0), 0)) (by decide +kernel)) g0_z hc_z
          replace hc_z := rn_iload (am_cur_of (i := (91, 2, .iload 6, (0, 0, 0), 0)) (by decide +kernel)) g6_z hc_z
          replace hc_z := rn_put (am_cur_of (i := (93, 3, .putfield 40, (11, 0, 642), 0)) (by decide +kernel)) (by decide +kernel) hc_z
          replace hc_z := rn_aload_n (am_cur_of (i := (96, 1, .aload_n 0, (0, 0, 0), 0)) (by decide +kernel)) g0_z hc_z
          replace hc_z := rn_iload (am_cur_of (i := (97, 2, .iload 7, (0, 0, 0), 0)) (by decide +kernel)) g7_z hc_z
          replace hc_z := rn_put (am_cur_of (i := (99, 3, .putfield 46, (11, 1, 644), 0)) (by decide +kernel)) (by decide +kernel) hc_z
          replace hc_z := rn_iinc (w := t + 1) (am_cur_of (i := (102, 3, .iinc 7 1, (0, 0, 0), 0)) (by decide +kernel)) g7_z rfl hc_z
          obtain ⟨_, s58_z, s59_z, g7_z, hc_z⟩ := hc_z
          replace g0_z := s58_z 0 _ (by decide) rfl g0_z
          replace g1_z := s58_z 1 _ (by decide) rfl g1_z
          replace g2_z := s59_z 2 _ (by decide) (by decide) g2_z
          replace g4_z := s59_z 4 _ (by decide) (by decide) g4_z
          replace g6_z := s58_z 6 _ (by decide) rfl g6_z
          replace g8_z := s59_z 8 _ (by decide) (by decide) g8_z
          clear s58_z s59_z
          replace hc_z := rn_gotoL (am_cur_of (i := (105, 3, .goto (-85), (12, 0, 0), 0)) (by decide +kernel)) hc_z
          have st : skT fi tm (lf l.toNatClampNeg) l (k + 1) t u w q = skT fi tm (lf l.toNatClampNeg) l k (t + 1) (lf l.toNatClampNeg * (fi t.toNatClampNeg).toInt64) (tm t.toNatClampNeg).toInt64 (some (l, t)) := skT_1 (show 0 < (lg_cmp (lf l.toNatClampNeg * (fi t.toNatClampNeg).toInt64 * w) (u * (tm t.toNatClampNeg).toInt64)).toInt by omega)
          rw [st]
          obtain ⟨l2_z, h2_z, f0_z, f1_z, f2_z, f3_z, f4_z, f5_z, f6_z, f7_z, f8_z⟩ := ih_z k (t + 1) (lf l.toNatClampNeg * (fi t.toNatClampNeg).toInt64) (tm t.toNatClampNeg).toInt64 (some (l, t)) _ (am_up (am_up h 161 0 (.int l)) 161 1 (.int t)) (fun i hi_z => (rg_l_other (by omega)).trans ((rg_l_other (by omega)).trans (E1 i hi_z))) (fun i hi_z => (rg_v_other (by omega)).trans ((rg_v_other (by omega)).trans (E2 i hi_z))) (fun i hi_z => (rg_v_other (by omega)).trans ((rg_v_other (by omega)).trans (E3 i hi_z))) (fun i hi_z => (rg_v_other (by omega)).trans ((rg_v_other (by omega)).trans (E4 i hi_z))) ((congrArg Int32.toInt ((rg_v_other (by omega)).trans ((rg_v_other (by omega)).trans (rfl)))).trans eL) ((congrArg Int32.toInt ((rg_v_other (by omega)).trans ((rg_v_other (by omega)).trans (rfl)))).trans eT) (((rg_v_other (by omega)).trans (rg_v_self))) (rg_v_self) g0_z g1_z g2_z g4_z g6_z g7_z (by omega) (by omega) hc_z
          exact ⟨l2_z, h2_z, f0_z, f1_z, f2_z, f3_z, f4_z, rn_up (Nat.le_succ _) f5_z, f6_z, f7_z, fun o k ho => (f8_z o k ho).trans ((up_ne (by omega)).trans ((up_ne (by omega)).trans (rfl)))⟩
theorem sk_x61_23 {f : Nat} {r : Option Value} {h h' : am_H} {ls : am_L} {u w : Int64} {l : Int32} (g0_z : am_get ls 0 = some (.ref 161)) (g1_z : am_get ls 1 = some (.ref 23)) (g2_z : am_get ls 2 = some (.long u)) (g4_z : am_get ls 4 = some (.long w)) (g6_z : am_get ls 6 = some (.int l)) (hc_z : rn (f + 1) am_m117 61 ls [] h r h') : ∃ l3_z, am_get l3_z 0 = some (.ref 161) ∧ am_get l3_z 1 = some (.ref 23) ∧ am_get l3_z 2 = some (.long u) ∧ am_get l3_z 4 = some (.long w) ∧ am_get l3_z 6 = some (.int (l + 1)) ∧ rn f am_m117 6 l3_z [] h r h' := by
  replace hc_z := rn_iinc (w := l + 1) (am_cur_of (i := (108, 3, .iinc 6 1, (0, 0, 0), 0)) (by decide +kernel)) g6_z rfl hc_z
  obtain ⟨_, s68_z, s69_z, g6_z, hc_z⟩ := hc_z
  replace g0_z := s68_z 0 _ (by decide) rfl g0_z
  replace g1_z := s68_z 1 _ (by decide) rfl g1_z
  replace g2_z := s69_z 2 _ (by decide) (by decide) g2_z
  replace g4_z := s69_z 4 _ (by decide) (by decide) g4_z
  clear s68_z s69_z
  replace hc_z := rn_gotoL (am_cur_of (i := (111, 3, .goto (-103), (6, 0, 0), 0)) (by decide +kernel)) hc_z
  exact ⟨_, g0_z, g1_z, g2_z, g4_z, g6_z, hc_z⟩
theorem sk_y12_23 {f : Nat} {r : Option Value} {h h' : am_H} {ls : am_L} {u w : Int64} {l t : Int32} {lk : Nat → Int32} {L : Nat} (h3_z : ¬ (lk l.toNatClampNeg).toInt < 3) (E2 : ∀ i : Nat, i < L → rg_v h 163 i = lk i) (hl_z : l.toNatClampNeg < L) (cl : (l.toNatClampNeg : Int) = l.toInt) (g0_z : am_get ls 0 = some (.ref 161)) (g1_z : am_get ls 1 = some (.ref 23)) (g2_z : am_get ls 2 = some (.long u)) (g4_z : am_get ls 4 = some (.long w)) (g6_z : am_get ls 6 = some (.int l)) (g7_z : am_get ls 7 = some (.int t)) (hc_z : rn (f + 1) am_m117 12 ls [] h r h') : ∃ l3_z, am_get l3_z 0 = some (.ref 161) ∧ am_get l3_z 1 = some (.ref 23) ∧ am_get l3_z 2 = some (.long u) ∧ am_get l3_z 4 = some (.long w) ∧ am_get l3_z 6 = some (.int (l + 1)) ∧ rn f am_m117 6 l3_z [] h r h' := by
  have z3_z : (3 : Int32).toInt = 3 := by decide
  replace hc_z := rn_iload (am_cur_of (i := (20, 2, .iload 7, (0, 0, 0), 0)) (by decide +kernel)) g7_z hc_z
  replace hc_z := rn_aload_n (am_cur_of (i := (22, 1, .aload_n 1, (0, 0, 0), 0)) (by decide +kernel)) g1_z hc_z
  replace hc_z := rn_getI (v := rg_v h 23 12) (am_cur_of (i := (23, 3, .getfield 51, (1, 12, 295), 0)) (by decide +kernel)) (by decide +kernel) rfl hc_z
  replace hc_z := rn_cmp (am_cur_of (i := (26, 3, .if_icmp .ge 82, (61, 0, 0), 0)) (by decide +kernel)) hc_z
  rcases hc_z with ⟨b70_z, hc_z⟩ | ⟨b70_z, hc_z⟩
  · replace b70_z : (rg_v h 23 12).toInt ≤ t.toInt := b70_z
    replace hc_z := rn_iinc (w := l + 1) (am_cur_of (i := (108, 3, .iinc 6 1, (0, 0, 0), 0)) (by decide +kernel)) g6_z rfl hc_z
    obtain ⟨_, s71_z, s72_z, g6_z, hc_z⟩ := hc_z
    replace g0_z := s71_z 0 _ (by decide) rfl g0_z
    replace g1_z := s71_z 1 _ (by decide) rfl g1_z
    replace g2_z := s72_z 2 _ (by decide) (by decide) g2_z
    replace g4_z := s72_z 4 _ (by decide) (by decide) g4_z
    replace g7_z := s71_z 7 _ (by decide) rfl g7_z
    clear s71_z s72_z
    replace hc_z := rn_gotoL (am_cur_of (i := (111, 3, .goto (-103), (6, 0, 0), 0)) (by decide +kernel)) hc_z
    exact ⟨_, g0_z, g1_z, g2_z, g4_z, g6_z, hc_z⟩
  · replace b70_z : t.toInt < (rg_v h 23 12).toInt := b70_z
    replace hc_z := rn_aload_n (am_cur_of (i := (29, 1, .aload_n 0, (0, 0, 0), 0)) (by decide +kernel)) g0_z hc_z
    replace hc_z := rn_getR (x := 163) (am_cur_of (i := (30, 3, .getfield 15, (11, 3, 647), 0)) (by decide +kernel)) (by decide +kernel) hc_z
    replace hc_z := rn_iload (am_cur_of (i := (33, 2, .iload 6, (0, 0, 0), 0)) (by decide +kernel)) g6_z hc_z
    replace hc_z := rn_iaload (N := 6) (q := l.toNatClampNeg) (v := lk l.toNatClampNeg) (am_cur_of (i := (35, 1, .iaload, (0, 0, 0), 0)) (by decide +kernel)) (by decide +kernel) rfl (E2 l.toNatClampNeg (by omega)) hc_z
    obtain ⟨p73_z, hc_z⟩ := hc_z
    replace hc_z := rn_iconst (w := 3) (am_cur_of (i := (36, 1, .iconst 3, (0, 0, 0), 0)) (by decide +kernel)) (by decide) hc_z
    replace hc_z := rn_cmp (am_cur_of (i := (37, 3, .if_icmp .ge 71, (61, 0, 0), 0)) (by decide +kernel)) hc_z
    rcases hc_z with ⟨b74_z, hc_z⟩ | ⟨b74_z, hc_z⟩
    · replace b74_z : (3 : Int32).toInt ≤ (lk l.toNatClampNeg).toInt := b74_z
      replace hc_z := rn_iinc (w := l + 1) (am_cur_of (i := (108, 3, .iinc 6 1, (0, 0, 0), 0)) (by decide +kernel)) g6_z rfl hc_z
      obtain ⟨_, s75_z, s76_z, g6_z, hc_z⟩ := hc_z
      replace g0_z := s75_z 0 _ (by decide) rfl g0_z
      replace g1_z := s75_z 1 _ (by decide) rfl g1_z
      replace g2_z := s76_z 2 _ (by decide) (by decide) g2_z
      replace g4_z := s76_z 4 _ (by decide) (by decide) g4_z
      replace g7_z := s75_z 7 _ (by decide) rfl g7_z
      clear s75_z s76_z
      replace hc_z := rn_gotoL (am_cur_of (i := (111, 3, .goto (-103), (6, 0, 0), 0)) (by decide +kernel)) hc_z
      exact ⟨_, g0_z, g1_z, g2_z, g4_z, g6_z, hc_z⟩
    · replace b74_z : (lk l.toNatClampNeg).toInt < (3 : Int32).toInt := b74_z
      exact absurd b74_z (by omega)
theorem sk_l23 {r : Option Value} {h' : am_H} {lf : Nat → Int64} {lk fi tm : Nat → Int32} {L T : Nat} {a0_z b0_z : Int32} (T9 : T ≤ 99) (L9 : L ≤ 99) : ∀ (f k : Nat) (l : Int32) (u w : Int64) (q : skQ) (ls : am_L) (h : am_H), (∀ i : Nat, i < L → rg_l h 162 i = lf i) → (∀ i : Nat, i < L → rg_v h 163 i = lk i) → (∀ t : Nat, t < T → rg_v h 30 t = fi t) → (∀ t : Nat, t < T → rg_v h 31 t = tm t) → (rg_v h 23 9).toInt = L → (rg_v h 23 12).toInt = T → rg_v h 161 0 = skA q a0_z → rg_v h 161 1 = skZ q b0_z → am_get ls 0 = some (.ref 161) → am_get ls 1 = some (.ref 23) → am_get ls 2 = some (.long u) → am_get ls 4 = some (.long w) → am_get ls 6 = some (.int l) → 0 ≤ l.toInt → l.toInt + k = L → rn f am_m117 6 ls [] h r h' → r = some (.int (if 0 < (lg_cmp (skL lf lk fi tm T k l u w q).1 0).toInt then 1 else 0)) ∧ rg_v h' 161 0 = skA (skL lf lk fi tm T k l u w q).2.2 a0_z ∧ rg_v h' 161 1 = skZ (skL lf lk fi tm T k l u w q).2.2 b0_z ∧ ∀ o k, ¬ (o = 161 ∧ (k = 0 ∨ k = 1)) → h' o k = h o k := by
  intro f
  induction f with
  | zero => intro k l u w q ls h E1 E2 E3 E4 eL eT Ea Eb g0_z g1_z g2_z g4_z g6_z l0_z lk_ hc_z; exact absurd hc_z rn_0
  | succ f ih_z =>
    intro k l u w q ls h E1 E2 E3 E4 eL eT Ea Eb g0_z g1_z g2_z g4_z g6_z l0_z lk_ hc_z
    have cl := rt_cl l0_z
    have z0_z : (0 : Int32).toInt = 0 := by decide
    replace hc_z := rn_iload (am_cur_of (i := (8, 2, .iload 6, (0, 0, 0), 0)) (by decide +kernel)) g6_z hc_z
    replace hc_z := rn_aload_n (am_cur_of (i := (10, 1, .aload_n 1, (0, 0, 0), 0)) (by decide +kernel)) g1_z hc_z
    replace hc_z := rn_getI (v := rg_v h 23 9) (am_cur_of (i := (11, 3, .getfield 19, (1, 9, 283), 0)) (by decide +kernel)) (by decide +kernel) rfl hc_z
    replace hc_z := rn_cmp (am_cur_of (i := (14, 3, .if_icmp .ge 100, (63, 0, 0), 0)) (by decide +kernel)) hc_z
    rcases hc_z with ⟨b60_z, hc_z⟩ | ⟨b60_z, hc_z⟩
    · replace b60_z : (rg_v h 23 9).toInt ≤ l.toInt := b60_z
      obtain rfl : k = 0 := by omega
      replace hc_z := rn_lload_n (am_cur_of (i := (114, 1, .lload_n 2, (0, 0, 0), 0)) (by decide +kernel)) g2_z hc_z
      replace hc_z := rn_lconst (w := 0) (am_cur_of (i := (115, 1, .lconst 0, (0, 0, 0), 0)) (by decide +kernel)) rfl hc_z
      replace hc_z := rn_lcmp (w := lg_cmp u 0) (am_cur_of (i := (116, 1, .lcmp, (0, 0, 0), 0)) (by decide +kernel)) rfl hc_z
      replace hc_z := rn_if (am_cur_of (i := (117, 3, .ifCond .le 7, (69, 0, 0), 0)) (by decide +kernel)) hc_z
      rcases hc_z with ⟨b61_z, hc_z⟩ | ⟨b61_z, hc_z⟩
      · replace b61_z : (lg_cmp u 0).toInt ≤ (0 : Int32).toInt := b61_z
        replace hc_z := rn_iconst (w := 0) (am_cur_of (i := (124, 1, .iconst 0, (0, 0, 0), 0)) (by decide +kernel)) (by decide) hc_z
        replace hc_z := rn_iret (am_cur_of (i := (125, 1, .ireturn, (0, 0, 0), 0)) (by decide +kernel)) hc_z
        obtain ⟨e62_z, e63_z⟩ := hc_z
        rw [e63_z]
        exact ⟨e62_z.trans (congrArg (fun q => some (Value.int q)) (if_neg (show ¬ 0 < (lg_cmp u 0).toInt by omega)).symm), Ea, Eb, fun _ _ _ => rfl⟩
      · replace b61_z : (0 : Int32).toInt < (lg_cmp u 0).toInt := b61_z
        replace hc_z := rn_iconst (w := 1) (am_cur_of (i := (120, 1, .iconst 1, (0, 0, 0), 0)) (by decide +kernel)) (by decide) hc_z
        replace hc_z := rn_goto (am_cur_of (i := (121, 3, .goto 4, (70, 0, 0), 0)) (by decide +kernel)) hc_z
        replace hc_z := rn_iret (am_cur_of (i := (125, 1, .ireturn, (0, 0, 0), 0)) (by decide +kernel)) hc_z
        obtain ⟨e64_z, e65_z⟩ := hc_z
        rw [e65_z]
        exact ⟨e64_z.trans (congrArg (fun q => some (Value.int q)) (if_pos (show 0 < (lg_cmp u 0).toInt by omega)).symm), Ea, Eb, fun _ _ _ => rfl⟩
    · replace b60_z : l.toInt < (rg_v h 23 9).toInt := b60_z
      obtain ⟨k, rfl⟩ : ∃ k2_z, k = k2_z + 1 := ⟨k - 1, by omega⟩
      have c1_z := rt_c1 l0_z (by omega)
      replace hc_z := rn_iconst (w := 0) (am_cur_of (i := (17, 1, .iconst 0, (0, 0, 0), 0)) (by decide +kernel)) (by decide) hc_z
      replace hc_z := rn_istore (am_cur_of (i := (18, 2, .istore 7, (0, 0, 0), 0)) (by decide +kernel)) hc_z
      obtain ⟨_, s66_z, s67_z, g7_z, hc_z⟩ := hc_z
      replace g0_z := s66_z 0 _ (by decide) rfl g0_z
      replace g1_z := s66_z 1 _ (by decide) rfl g1_z
      replace g2_z := s67_z 2 _ (by decide) (by decide) g2_z
      replace g4_z := s67_z 4 _ (by decide) (by decide) g4_z
      replace g6_z := s66_z 6 _ (by decide) rfl g6_z
      clear s66_z s67_z
      by_cases h3_z : (lk l.toNatClampNeg).toInt < 3
      · obtain ⟨l2_z, h2_z, f0_z, f1_z, f2_z, f3_z, f4_z, hc2_z, f6_z, f7_z, f8_z⟩ := sk_t23 (a0_z := a0_z) (b0_z := b0_z) (by omega) l0_z h3_z T9 L9 _ T 0 u w q _ _ E1 E2 E3 E4 eL eT Ea Eb g0_z g1_z g2_z g4_z g6_z g7_z (by decide) (by rw [show (0 : Int32).toInt = 0 by decide]; omega) hc_z
        rw [skL_1 h3_z]
        have fv : ∀ o k, ¬ o = 161 → rg_v h2_z o k = rg_v h o k := by
          intro o k e
          unfold rg_v
          rw [f8_z o k (by omega)]
        have fl : ∀ k, rg_l h2_z 162 k = rg_l h 162 k := by
          intro k
          unfold rg_l
          rw [f8_z 162 k (by omega)]
        have sX := sk_x61_23 f0_z f1_z f2_z f3_z f4_z hc2_z
        obtain ⟨l3_z, g0_z', g1_z', g2_z', g4_z', g6_z', hc3_z⟩ := sX
        obtain ⟨z1_z, z2_z, z3_z, z4_z⟩ := ih_z k (l + 1) _ _ _ l3_z h2_z (fun i hi_z => (fl i).trans (E1 i hi_z)) (fun i hi_z => (fv 163 i (by omega)).trans (E2 i hi_z)) (fun i hi_z => (fv 30 i (by omega)).trans (E3 i hi_z)) (fun i hi_z => (fv 31 i (by omega)).trans (E4 i hi_z)) ((congrArg Int32.toInt (fv 23 9 (by omega))).trans eL) ((congrArg Int32.toInt (fv 23 12 (by omega))).trans eT) f6_z f7_z g0_z' g1_z' g2_z' g4_z' g6_z' (by omega) (by omega) hc3_z
        exact ⟨z1_z, z2_z, z3_z, fun o k ho => (z4_z o k ho).trans (f8_z o k ho)⟩
      · rw [skL_0 h3_z]
        obtain ⟨l3_z, g0_z', g1_z', g2_z', g4_z', g6_z', hc3_z⟩ := sk_y12_23 (t := 0) h3_z E2 (by omega) cl g0_z g1_z g2_z g4_z g6_z g7_z hc_z
        exact ih_z k (l + 1) u w q l3_z _ E1 E2 E3 E4 eL eT Ea Eb g0_z' g1_z' g2_z' g4_z' g6_z' (by omega) (by omega) hc3_z
theorem sk_117_23 {n : Nat} {r : Option Value} {h h' : am_H} {lf : Nat → Int64} {lk fi tm : Nat → Int32} {L T : Nat} (T9 : T ≤ 99) (L9 : L ≤ 99) (E1 : ∀ i : Nat, i < L → rg_l h 162 i = lf i) (E2 : ∀ i : Nat, i < L → rg_v h 163 i = lk i) (E3 : ∀ t : Nat, t < T → rg_v h 30 t = fi t) (E4 : ∀ t : Nat, t < T → rg_v h 31 t = tm t) (eL : (rg_v h 23 9).toInt = L) (eT : (rg_v h 23 12).toInt = T) (hc_z : rn n am_m117 0 (lv_args 0 [.ref 161, .ref 23]) [] h r h') : r = some (.int (if 0 < (lg_cmp (skN lf lk fi tm L T).1 0).toInt then 1 else 0)) ∧ rg_v h' 161 0 = skA (skN lf lk fi tm L T).2.2 (rg_v h 161 0) ∧ rg_v h' 161 1 = skZ (skN lf lk fi tm L T).2.2 (rg_v h 161 1) ∧ ∀ o k, ¬ (o = 161 ∧ (k = 0 ∨ k = 1)) → h' o k = h o k := by
  have g0_z : am_get (lv_args 0 [.ref 161, .ref 23]) 0 = some (.ref 161) := rfl
  have g1_z : am_get (lv_args 0 [.ref 161, .ref 23]) 1 = some (.ref 23) := rfl
  replace hc_z := rn_lconst (w := 0) (am_cur_of (i := (0, 1, .lconst 0, (0, 0, 0), 0)) (by decide +kernel)) rfl hc_z
  replace hc_z := rn_lstore_n (am_cur_of (i := (1, 1, .lstore_n 2, (0, 0, 0), 0)) (by decide +kernel)) hc_z
  obtain ⟨_, s77_z, s78_z, g2_z, hc_z⟩ := hc_z
  replace g0_z := s77_z 0 _ (by decide) (by decide) rfl g0_z
  replace g1_z := s77_z 1 _ (by decide) (by decide) rfl g1_z
  clear s77_z s78_z
  replace hc_z := rn_lconst (w := 1) (am_cur_of (i := (2, 1, .lconst 1, (0, 0, 0), 0)) (by decide +kernel)) rfl hc_z
  replace hc_z := rn_lstore (am_cur_of (i := (3, 2, .lstore 4, (0, 0, 0), 0)) (by decide +kernel)) hc_z
  obtain ⟨_, s79_z, s80_z, g4_z, hc_z⟩ := hc_z
  replace g0_z := s79_z 0 _ (by decide) (by decide) rfl g0_z
  replace g1_z := s79_z 1 _ (by decide) (by decide) rfl g1_z
  replace g2_z := s80_z 2 _ (by decide) (by decide) (by decide) g2_z
  clear s79_z s80_z
  replace hc_z := rn_iconst (w := 0) (am_cur_of (i := (5, 1, .iconst 0, (0, 0, 0), 0)) (by decide +kernel)) (by decide) hc_z
  replace hc_z := rn_istore (am_cur_of (i := (6, 2, .istore 6, (0, 0, 0), 0)) (by decide +kernel)) hc_z
  obtain ⟨_, s81_z, s82_z, g6_z, hc_z⟩ := hc_z
  replace g0_z := s81_z 0 _ (by decide) rfl g0_z
  replace g1_z := s81_z 1 _ (by decide) rfl g1_z
  replace g2_z := s82_z 2 _ (by decide) (by decide) g2_z
  replace g4_z := s82_z 4 _ (by decide) (by decide) g4_z
  clear s81_z s82_z
  exact sk_l23 T9 L9 _ L 0 0 1 none _ _ E1 E2 E3 E4 eL eT rfl rfl g0_z g1_z g2_z g4_z g6_z (by decide) (by rw [show (0 : Int32).toInt = 0 by decide]; omega) hc_z
/-- what is left of a leak's weight at first -/
def sk0_z (x : Int32) (W : Nat → Int32) (n : Nat) : Int64 := if (x >>> (Int32.ofInt n &&& 31)) &&& 1 = 0 then (W n).toInt64 * 1000000 else 0
theorem sk0_1 {x i : Int32} {W : Nat → Int32} (i0_z : 0 ≤ i.toInt) (h : ¬ (x >>> (i &&& 31)) &&& 1 = 0) : sk0_z x W i.toNatClampNeg = 0 := by
  unfold sk0_z
  rw [rt_cl i0_z, Int32.ofInt_toInt, if_neg h]
theorem sk0_0 {x i : Int32} {W : Nat → Int32} (i0_z : 0 ≤ i.toInt) (h : (x >>> (i &&& 31)) &&& 1 = 0) : sk0_z x W i.toNatClampNeg = (W i.toNatClampNeg).toInt64 * 1000000 := by
  unfold sk0_z
  rw [rt_cl i0_z, Int32.ofInt_toInt, if_pos h]
theorem sk0_g {x : Int32} {W : Nat → Int32} {L : Nat} (hW : ∀ i, i < L → 0 ≤ (W i).toInt ∧ (W i).toInt ≤ 99) : skG (sk0_z x W) (fun _ => 0) L := by
  intro i hi_z
  refine ⟨?_, by decide⟩
  unfold sk0_z
  split
  · have w := hW i hi_z
    have z : (1000000 : Int64).toInt = 1000000 := by decide
    have e : (W i).toInt64.toInt = (W i).toInt := Int32.toInt_toInt64 _
    rw [sk_mul (by rw [e, z]; omega) (by rw [e, z]; omega), e, z]
    omega
  · decide
theorem sk0_e {x : Int32} {W V : Nat → Int32} {L : Nat} (e : ∀ i, i < L → W i = V i) : ∀ i, i < L → sk0_z x W i = sk0_z x V i := by
  intro i hi_z
  unfold sk0_z
  rw [e i hi_z]
theorem skT_e {fi tm fi2_z tm2_z : Nat → Int32} {x : Int64} {l : Int32} {T : Nat} (T9 : T ≤ 99) (e : ∀ t, t < T → fi t = fi2_z t ∧ tm t = tm2_z t) : ∀ (k : Nat) (t : Int32) (u w : Int64) (q : skQ), 0 ≤ t.toInt → t.toInt + k = T → skT fi tm x l k t u w q = skT fi2_z tm2_z x l k t u w q
  | 0, _, _, _, _, _, _ => rfl
  | k + 1, t, u, w, q, t0_z, tk => by
    have ct := rt_cl t0_z
    have c1_z := rt_c1 t0_z (by omega)
    obtain ⟨e1_z, e2_z⟩ := e t.toNatClampNeg (by omega)
    rw [skT.eq_2, skT.eq_2, e1_z, e2_z, skT_e T9 e k (t + 1) _ _ _ (by omega) (by omega), skT_e T9 e k (t + 1) u w q (by omega) (by omega)]
theorem skL_e {lf lf2_z : Nat → Int64} {lk lk2_z fi tm fi2_z tm2_z : Nat → Int32} {L T : Nat} (T9 : T ≤ 99) (L9 : L ≤ 99) (e : ∀ t, t < T → fi t = fi2_z t ∧ tm t = tm2_z t) (d : ∀ i, i < L → lf i = lf2_z i ∧ lk i = lk2_z i) : ∀ (k : Nat) (l : Int32) (u w : Int64) (q : skQ), 0 ≤ l.toInt → l.toInt + k = L → skL lf lk fi tm T k l u w q = skL lf2_z lk2_z fi2_z tm2_z T k l u w q
  | 0, _, _, _, _, _, _ => rfl
  | k + 1, l, u, w, q, l0_z, lk_ => by
    have cl := rt_cl l0_z
    have c1_z := rt_c1 l0_z (by omega)
    obtain ⟨d1_z, d2_z⟩ := d l.toNatClampNeg (by omega)
    rw [skL.eq_2, skL.eq_2, d1_z, d2_z, skT_e T9 e T 0 u w q (by decide) (by rw [show (0 : Int32).toInt = 0 by decide]; omega), skL_e T9 L9 e d k (l + 1) _ _ _ (by omega) (by omega), skL_e T9 L9 e d k (l + 1) u w q (by omega) (by omega)]
theorem skI_e {fi tm fi2_z tm2_z : Nat → Int32} {L T : Nat} (T9 : T ≤ 99) (L9 : L ≤ 99) (e : ∀ t, t < T → fi t = fi2_z t ∧ tm t = tm2_z t) (hf_z : ∀ t, t < T → 1 ≤ (fi t).toInt ∧ (fi t).toInt ≤ 100) (ht : ∀ t, t < T → 1 ≤ (tm t).toInt ∧ (tm t).toInt ≤ 99) : ∀ (r : Nat) (lf lf2_z : Nat → Int64) (lk lk2_z : Nat → Int32) (q : skQ), (∀ i, i < L → lf i = lf2_z i ∧ lk i = lk2_z i) → skG lf lk L → skI fi tm L T r lf lk q = skI fi2_z tm2_z L T r lf2_z lk2_z q
  | 0, _, _, _, _, _, _, _ => rfl
  | r + 1, lf, lf2_z, lk, lk2_z, q, d, G => by
    obtain ⟨-, b⟩ := skL_b (lf := lf) (lk := lk) L9 T9 (fun i hi_z => (G i hi_z).1) hf_z ht L 0 0 1 none (by decide) (by rw [show (0 : Int32).toInt = 0 by decide]; omega) ⟨by decide, by decide, Or.inl ⟨rfl, by decide⟩⟩
    have en : skN lf lk fi tm L T = skN lf2_z lk2_z fi2_z tm2_z L T := skL_e T9 L9 e d L 0 0 1 none (by decide) (by rw [show (0 : Int32).toInt = 0 by decide]; omega)
    rw [skI.eq_2, skI.eq_2, ← en]
    rcases b with b | ⟨l2_z, t2_z, b, ⟨l0_z, l9_z⟩, ⟨t0_z, t9_z⟩, b3_z⟩
    · rw [show (skN lf lk fi tm L T).2.2 = none from b]
    · rw [show (skN lf lk fi tm L T).2.2 = some (l2_z, t2_z) from b]
      have cl := rt_cl l0_z
      have ct := rt_cl t0_z
      refine skI_e T9 L9 e hf_z ht r _ _ _ _ _ (fun i hi_z => ?_) (skG_u G hf_z (by omega) (by omega) b3_z)
      have e1_z := (e t2_z.toNatClampNeg (by omega)).1
      have d1_z := d l2_z.toNatClampNeg (by omega)
      have d2_z := d i hi_z
      unfold skU skV
      rw [e1_z, d1_z.1, d1_z.2, d2_z.1, d2_z.2]
      exact ⟨rfl, rfl⟩
theorem skN_b {lf : Nat → Int64} {lk fi tm : Nat → Int32} {L T : Nat} (L9 : L ≤ 99) (T9 : T ≤ 99) (G : skG lf lk L) (hf_z : ∀ t, t < T → 1 ≤ (fi t).toInt ∧ (fi t).toInt ≤ 100) (ht : ∀ t, t < T → 1 ≤ (tm t).toInt ∧ (tm t).toInt ≤ 99) : ((skN lf lk fi tm L T).2.2 = none ∧ ¬ 0 < (lg_cmp (skN lf lk fi tm L T).1 0).toInt) ∨ ∃ l2_z t2_z : Int32, (skN lf lk fi tm L T).2.2 = some (l2_z, t2_z) ∧ 0 < (lg_cmp (skN lf lk fi tm L T).1 0).toInt ∧ (0 ≤ l2_z.toInt ∧ l2_z.toInt < L) ∧ (0 ≤ t2_z.toInt ∧ t2_z.toInt < T) ∧ (lk l2_z.toNatClampNeg).toInt < 3 := by
  obtain ⟨⟨a, -, c⟩, b⟩ := skL_b (lf := lf) (lk := lk) L9 T9 (fun i hi_z => (G i hi_z).1) hf_z ht L 0 0 1 none (by decide) (by rw [show (0 : Int32).toInt = 0 by decide]; omega) ⟨by decide, by decide, Or.inl ⟨rfl, by decide⟩⟩
  have z : (0 : Int64).toInt = 0 := by decide
  rcases b with b | ⟨l2_z, t2_z, b, x, y, b3_z⟩
  · refine Or.inl ⟨b, fun q => ?_⟩
    rcases c with ⟨-, c⟩ | ⟨c, -⟩
    · replace c : (skN lf lk fi tm L T).1.toInt = 0 := c
      have := sk_cmp.mp q
      omega
    · exact absurd b c
  · refine Or.inr ⟨l2_z, t2_z, b, ?_, x, y, b3_z⟩
    rcases c with ⟨c, -⟩ | ⟨-, c⟩
    · exact absurd (b.symm.trans c) (fun q => by cases q)
    · replace c : 0 < (skN lf lk fi tm L T).1.toInt := c
      exact sk_cmp.mpr (by omega)
theorem skI_0 {fi tm : Nat → Int32} {L T r : Nat} {lf : Nat → Int64} {lk : Nat → Int32} {q : skQ} (h : (skN lf lk fi tm L T).2.2 = none) : skI fi tm L T (r + 1) lf lk q = none := by
  rw [skI.eq_2, h]
theorem skI_1 {fi tm : Nat → Int32} {L T r : Nat} {lf : Nat → Int64} {lk : Nat → Int32} {q : skQ} {l t : Int32} (h : (skN lf lk fi tm L T).2.2 = some (l, t)) : skI fi tm L T (r + 1) lf lk q = skI fi tm L T r (skU lf fi l t) (skV lk l) (some (l, t)) := by
  rw [skI.eq_2, h]
theorem rgl_v {h h' : am_H} {o k : Nat} (e : h' o k = h o k) : rg_l h' o k = rg_l h o k := by
  unfold rg_l
  rw [e]
theorem rgv_v {h h' : am_H} {o k : Nat} (e : h' o k = h o k) : rg_v h' o k = rg_v h o k := by
  unfold rg_v
  rw [e]

theorem sk_76 {n : Nat} {h h' : am_H} {r : Option Value} {k : Int32}  (hc_z : rn n am_m76 0 (lv_args 0 [.ref 48, .int k]) [] h r h') : (((((rg_v h 48 4) >>> (k &&& 31)) &&& 1) = (0 : Int32) ∧ (((rg_v h 48 4) >>> (k &&& 31)) &&& 1).toInt = (0 : Int32).toInt) ∧ r = some (.int 0) ∧ h' = h) ∨ ((¬ (((rg_v h 48 4) >>> (k &&& 31)) &&& 1) = (0 : Int32) ∧ ¬ (((rg_v h 48 4) >>> (k &&& 31)) &&& 1).toInt = (0 : Int32).toInt) ∧ r = some (.int 1) ∧ h' = h) := by
  have g0_z : am_get (lv_args 0 [.ref 48, .int k]) 0 = some (.ref 48) := rfl
  have g1_z : am_get (lv_args 0 [.ref 48, .int k]) 1 = some (.int k) := rfl
  replace hc_z := rn_aload_n (am_cur_of (i := (0, 1, .aload_n 0, (0, 0, 0), 0)) (by decide +kernel)) g0_z hc_z
  replace hc_z := rn_getI (v := rg_v h 48 4) (am_cur_of (i := (1, 3, .getfield 42, (5, 4, 478), 0)) (by decide +kernel)) (by decide +kernel) rfl hc_z
  replace hc_z := rn_iload_n (am_cur_of (i := (4, 1, .iload_n 1, (0, 0, 0), 0)) (by decide +kernel)) g1_z hc_z
  replace hc_z := rn_ishr (w := (rg_v h 48 4) >>> (k &&& 31)) (am_cur_of (i := (5, 1, .ishr, (0, 0, 0), 0)) (by decide +kernel)) rfl hc_z
  replace hc_z := rn_iconst (w := 1) (am_cur_of (i := (6, 1, .iconst 1, (0, 0, 0), 0)) (by decide +kernel)) (by decide) hc_z
  replace hc_z := rn_iand (w := ((rg_v h 48 4) >>> (k &&& 31)) &&& 1) (am_cur_of (i := (7, 1, .iand, (0, 0, 0), 0)) (by decide +kernel)) rfl hc_z
  replace hc_z := rn_if (am_cur_of (i := (8, 3, .ifCond .eq 7, (9, 0, 0), 0)) (by decide +kernel)) hc_z
  rcases hc_z with ⟨b83_z, hc_z⟩ | ⟨b83_z, hc_z⟩
  · replace b83_z : (((rg_v h 48 4) >>> (k &&& 31)) &&& 1) = (0 : Int32) ∧ (((rg_v h 48 4) >>> (k &&& 31)) &&& 1).toInt = (0 : Int32).toInt := b83_z
    replace hc_z := rn_iconst (w := 0) (am_cur_of (i := (15, 1, .iconst 0, (0, 0, 0), 0)) (by decide +kernel)) (by decide) hc_z
    replace hc_z := rn_iret (am_cur_of (i := (16, 1, .ireturn, (0, 0, 0), 0)) (by decide +kernel)) hc_z
    obtain ⟨e84_z, e85_z⟩ := hc_z
    exact Or.inl ⟨b83_z, e84_z, e85_z⟩
  · replace b83_z : ¬ (((rg_v h 48 4) >>> (k &&& 31)) &&& 1) = (0 : Int32) ∧ ¬ (((rg_v h 48 4) >>> (k &&& 31)) &&& 1).toInt = (0 : Int32).toInt := b83_z
    replace hc_z := rn_iconst (w := 1) (am_cur_of (i := (11, 1, .iconst 1, (0, 0, 0), 0)) (by decide +kernel)) (by decide) hc_z
    replace hc_z := rn_goto (am_cur_of (i := (12, 3, .goto 4, (10, 0, 0), 0)) (by decide +kernel)) hc_z
    replace hc_z := rn_iret (am_cur_of (i := (16, 1, .ireturn, (0, 0, 0), 0)) (by decide +kernel)) hc_z
    obtain ⟨e86_z, e87_z⟩ := hc_z
    exact Or.inr (⟨b83_z, e86_z, e87_z⟩)
theorem sk_i2 {r : Option Value} {h' : am_H} {x kk : Int32} {W : Nat → Int32} {L : Nat} (L9 : L ≤ 99) : ∀ (f : Nat) (i : Int32) (ls : am_L) (h : am_H), rg_v h 48 4 = x → (∀ n : Nat, n < L → rg_v h 6 n = W n) → (rg_v h 2 9).toInt = L → (∀ n : Nat, (n : Int) < i.toInt → rg_l h 162 n = sk0_z x W n ∧ rg_v h 163 n = 0) → 0 ≤ i.toInt → i.toInt ≤ L → am_get ls 0 = some (.ref 161) → am_get ls 1 = some (.int kk) → am_get ls 2 = some (.ref 2) → am_get ls 3 = some (.ref 48) → am_get ls 4 = some (.int i) → rn f am_m116 2 ls [] h r h' → ∃ l2_z h2_z, am_get l2_z 0 = some (.ref 161) ∧ am_get l2_z 1 = some (.int kk) ∧ am_get l2_z 2 = some (.ref 2) ∧ rn f am_m116 30 l2_z [] h2_z r h' ∧ (∀ n : Nat, n < L → rg_l h2_z 162 n = sk0_z x W n ∧ rg_v h2_z 163 n = 0) ∧ ∀ o k, ¬ (o = 162 ∨ o = 163) → h2_z o k = h o k := by
  intro f
  induction f with
  | zero => intro i ls h ex EW eL E i0_z iL g0_z g1_z g2_z g3_z g4_z hc_z; exact absurd hc_z rn_0
  | succ f ih_z =>
    intro i ls h ex EW eL E i0_z iL g0_z g1_z g2_z g3_z g4_z hc_z
    have ci_z := rt_cl i0_z
    have z0_z : (0 : Int32).toInt = 0 := by decide
    replace hc_z := rn_iload (am_cur_of (i := (3, 2, .iload 4, (0, 0, 0), 0)) (by decide +kernel)) g4_z hc_z
    replace hc_z := rn_aload_n (am_cur_of (i := (5, 1, .aload_n 2, (0, 0, 0), 0)) (by decide +kernel)) g2_z hc_z
    replace hc_z := rn_getI (v := rg_v h 2 9) (am_cur_of (i := (6, 3, .getfield 19, (1, 9, 283), 0)) (by decide +kernel)) (by decide +kernel) rfl hc_z
    replace hc_z := rn_cmp (am_cur_of (i := (9, 3, .if_icmp .ge 49, (30, 0, 0), 0)) (by decide +kernel)) hc_z
    rcases hc_z with ⟨b88_z, hc_z⟩ | ⟨b88_z, hc_z⟩
    · replace b88_z : (rg_v h 2 9).toInt ≤ i.toInt := b88_z
      exact ⟨_, _, g0_z, g1_z, g2_z, hc_z, fun n hn_z => E n (by omega), fun _ _ _ => rfl⟩
    · replace b88_z : i.toInt < (rg_v h 2 9).toInt := b88_z
      have c1_z := rt_c1 i0_z (by omega)
      replace hc_z := rn_aload_n (am_cur_of (i := (12, 1, .aload_n 0, (0, 0, 0), 0)) (by decide +kernel)) g0_z hc_z
      replace hc_z := rn_getR (x := 162) (am_cur_of (i := (13, 3, .getfield 9, (11, 2, 646), 0)) (by decide +kernel)) (by decide +kernel) hc_z
      replace hc_z := rn_iload (am_cur_of (i := (16, 2, .iload 4, (0, 0, 0), 0)) (by decide +kernel)) g4_z hc_z
      replace hc_z := rn_aload_n (am_cur_of (i := (18, 1, .aload_n 3, (0, 0, 0), 0)) (by decide +kernel)) g3_z hc_z
      replace hc_z := rn_iload (am_cur_of (i := (19, 2, .iload 4, (0, 0, 0), 0)) (by decide +kernel)) g4_z hc_z
      replace hc_z := rn_callV (M' := am_m76) (o := 48) (ar := [.int i]) (rest := [.int i, .ref 162]) (L := lv_args 0 [.ref 48, .int i]) (am_cur_of (i := (21, 3, .invokevirtual 25, (76, 1151, 3), 0)) (by decide +kernel)) rfl rfl rfl rfl hc_z
      obtain ⟨r89_z, h90_z, q91_z, hc_z⟩ := hc_z
      rcases sk_76 q91_z with ⟨b92_z, rfl, y93_z⟩ | ⟨b94_z, rfl, y95_z⟩
      · replace y93_z := y93_z.symm
        subst y93_z
        replace b92_z : ((((rg_v h 48 4)) >>> (i &&& 31)) &&& 1) = (0 : Int32) ∧ ((((rg_v h 48 4)) >>> (i &&& 31)) &&& 1).toInt = (0 : Int32).toInt := b92_z
        replace hc_z : rn _ _ _ _ [.int 0, .int i, .ref 162] _ _ _ := hc_z
        replace hc_z := rn_ifT (am_cur_of (i := (24, 3, .ifCond .eq 7, (15, 0, 0), 0)) (by decide +kernel)) (by decide) hc_z
        replace hc_z := rn_aload_n (am_cur_of (i := (31, 1, .aload_n 2, (0, 0, 0), 0)) (by decide +kernel)) g2_z hc_z
        replace hc_z := rn_getR (x := 6) (am_cur_of (i := (32, 3, .getfield 31, (1, 10, 288), 0)) (by decide +kernel)) (by decide +kernel) hc_z
        replace hc_z := rn_iload (am_cur_of (i := (35, 2, .iload 4, (0, 0, 0), 0)) (by decide +kernel)) g4_z hc_z
        replace hc_z := rn_iaload (N := 6) (q := i.toNatClampNeg) (v := W i.toNatClampNeg) (am_cur_of (i := (37, 1, .iaload, (0, 0, 0), 0)) (by decide +kernel)) (by decide +kernel) rfl (EW i.toNatClampNeg (by omega)) hc_z
        obtain ⟨p96_z, hc_z⟩ := hc_z
        replace hc_z := rn_i2l (w := (W i.toNatClampNeg).toInt64) (am_cur_of (i := (38, 1, .i2l, (0, 0, 0), 0)) (by decide +kernel)) rfl hc_z
        replace hc_z := rn_ldc2 (w := 1000000) (am_cur_of (i := (39, 3, .ldc2_w 34, (0, 0, 1152), 1000000)) (by decide +kernel)) (by decide) hc_z
        replace hc_z := rn_lmul (w := ((W i.toNatClampNeg).toInt64) * 1000000) (am_cur_of (i := (42, 1, .lmul, (0, 0, 0), 0)) (by decide +kernel)) rfl hc_z
        replace hc_z := rn_lastore (N := 6) (q := i.toNatClampNeg) (am_cur_of (i := (43, 1, .lastore, (0, 0, 0), 0)) (by decide +kernel)) (by decide +kernel) rfl hc_z
        obtain ⟨p97_z, hc_z⟩ := hc_z
        replace hc_z := rn_aload_n (am_cur_of (i := (44, 1, .aload_n 0, (0, 0, 0), 0)) (by decide +kernel)) g0_z hc_z
        replace hc_z := rn_getR (x := 163) (am_cur_of (i := (45, 3, .getfield 15, (11, 3, 647), 0)) (by decide +kernel)) (by decide +kernel) hc_z
        replace hc_z := rn_iload (am_cur_of (i := (48, 2, .iload 4, (0, 0, 0), 0)) (by decide +kernel)) g4_z hc_z
        replace hc_z := rn_iconst (w := 0) (am_cur_of (i := (50, 1, .iconst 0, (0, 0, 0), 0)) (by decide +kernel)) (by decide) hc_z
        replace hc_z := rn_iastore (N := 6) (q := i.toNatClampNeg) (am_cur_of (i := (51, 1, .iastore, (0, 0, 0), 0)) (by decide +kernel)) (by decide +kernel) rfl hc_z
        obtain ⟨p98_z, hc_z⟩ := hc_z
        replace hc_z := rn_iinc (w := i + 1) (am_cur_of (i := (52, 3, .iinc 4 1, (0, 0, 0), 0)) (by decide +kernel)) g4_z rfl hc_z
        obtain ⟨_, s99_z, s100_z, g4_z, hc_z⟩ := hc_z
        replace g0_z := s99_z 0 _ (by decide) rfl g0_z
        replace g1_z := s99_z 1 _ (by decide) rfl g1_z
        replace g2_z := s99_z 2 _ (by decide) rfl g2_z
        replace g3_z := s99_z 3 _ (by decide) rfl g3_z
        clear s99_z s100_z
        replace hc_z := rn_gotoL (am_cur_of (i := (55, 3, .goto (-52), (2, 0, 0), 0)) (by decide +kernel)) hc_z
        rw [ex] at b92_z
        have E101 : ∀ n : Nat, (n : Int) < (i + 1).toInt → rg_l (am_up (am_up h 162 i.toNatClampNeg (.long (((W i.toNatClampNeg).toInt64) * 1000000))) 163 i.toNatClampNeg (.int 0)) 162 n = sk0_z x W n ∧ rg_v (am_up (am_up h 162 i.toNatClampNeg (.long (((W i.toNatClampNeg).toInt64) * 1000000))) 163 i.toNatClampNeg (.int 0)) 163 n = 0 := by
          intro n hn_z
          by_cases e : n = i.toNatClampNeg
          · subst e
            exact ⟨(((rg_l_other (by omega)).trans (rg_l_self))).trans (sk0_0 i0_z b92_z.1).symm, rg_v_self⟩
          · exact ⟨((rg_l_other (by omega)).trans ((rg_l_other (by omega)).trans (rfl))).trans (E n (by omega)).1, ((rg_v_other (by omega)).trans ((rg_v_other (by omega)).trans (rfl))).trans (E n (by omega)).2⟩
        obtain ⟨l2_z, h2_z, f0_z, f1_z, f2_z, f3_z, f4_z, f5_z⟩ := ih_z (i + 1) _ (am_up (am_up h 162 i.toNatClampNeg (.long (((W i.toNatClampNeg).toInt64) * 1000000))) 163 i.toNatClampNeg (.int 0)) (((rg_v_other (by omega)).trans ((rg_v_other (by omega)).trans (rfl))).trans ex) (fun n hn_z => ((rg_v_other (by omega)).trans ((rg_v_other (by omega)).trans (rfl))).trans (EW n hn_z)) ((congrArg Int32.toInt ((rg_v_other (by omega)).trans ((rg_v_other (by omega)).trans (rfl)))).trans eL) E101 (by omega) (by omega) g0_z g1_z g2_z g3_z g4_z hc_z
        exact ⟨l2_z, h2_z, f0_z, f1_z, f2_z, rn_up (Nat.le_succ _) f3_z, f4_z, fun o k ho => (f5_z o k ho).trans ((up_ne (by omega)).trans ((up_ne (by omega)).trans (rfl)))⟩
      · replace y95_z := y95_z.symm
        subst y95_z
        replace b94_z : ¬ ((((rg_v h 48 4)) >>> (i &&& 31)) &&& 1) = (0 : Int32) ∧ ¬ ((((rg_v h 48 4)) >>> (i &&& 31)) &&& 1).toInt = (0 : Int32).toInt := b94_z
        replace hc_z : rn _ _ _ _ [.int 1, .int i, .ref 162] _ _ _ := hc_z
        replace hc_z := rn_ifF (am_cur_of (i := (24, 3, .ifCond .eq 7, (15, 0, 0), 0)) (by decide +kernel)) (by decide) hc_z
        replace hc_z := rn_lconst (w := 0) (am_cur_of (i := (27, 1, .lconst 0, (0, 0, 0), 0)) (by decide +kernel)) rfl hc_z
        replace hc_z := rn_goto (am_cur_of (i := (28, 3, .goto 15, (22, 0, 0), 0)) (by decide +kernel)) hc_z
        replace hc_z := rn_lastore (N := 6) (q := i.toNatClampNeg) (am_cur_of (i := (43, 1, .lastore, (0, 0, 0), 0)) (by decide +kernel)) (by decide +kernel) rfl hc_z
        obtain ⟨p102_z, hc_z⟩ := hc_z
        replace hc_z := rn_aload_n (am_cur_of (i := (44, 1, .aload_n 0, (0, 0, 0), 0)) (by decide +kernel)) g0_z hc_z
        replace hc_z := rn_getR (x := 163) (am_cur_of (i := (45, 3, .getfield 15, (11, 3, 647), 0)) (by decide +kernel)) (by decide +kernel) hc_z
        replace hc_z := rn_iload (am_cur_of (i := (48, 2, .iload 4, (0, 0, 0), 0)) (by decide +kernel)) g4_z hc_z
        replace hc_z := rn_iconst (w := 0) (am_cur_of (i := (50, 1, .iconst 0, (0, 0, 0), 0)) (by decide +kernel)) (by decide) hc_z
        replace hc_z := rn_iastore (N := 6) (q := i.toNatClampNeg) (am_cur_of (i := (51, 1, .iastore, (0, 0, 0), 0)) (by decide +kernel)) (by decide +kernel) rfl hc_z
        obtain ⟨p103_z, hc_z⟩ := hc_z
        replace hc_z := rn_iinc (w := i + 1) (am_cur_of (i := (52, 3, .iinc 4 1, (0, 0, 0), 0)) (by decide +kernel)) g4_z rfl hc_z
        obtain ⟨_, s104_z, s105_z, g4_z, hc_z⟩ := hc_z
        replace g0_z := s104_z 0 _ (by decide) rfl g0_z
        replace g1_z := s104_z 1 _ (by decide) rfl g1_z
        replace g2_z := s104_z 2 _ (by decide) rfl g2_z
        replace g3_z := s104_z 3 _ (by decide) rfl g3_z
        clear s104_z s105_z
        replace hc_z := rn_gotoL (am_cur_of (i := (55, 3, .goto (-52), (2, 0, 0), 0)) (by decide +kernel)) hc_z
        rw [ex] at b94_z
        have E106 : ∀ n : Nat, (n : Int) < (i + 1).toInt → rg_l (am_up (am_up h 162 i.toNatClampNeg (.long 0)) 163 i.toNatClampNeg (.int 0)) 162 n = sk0_z x W n ∧ rg_v (am_up (am_up h 162 i.toNatClampNeg (.long 0)) 163 i.toNatClampNeg (.int 0)) 163 n = 0 := by
          intro n hn_z
          by_cases e : n = i.toNatClampNeg
          · subst e
            exact ⟨(((rg_l_other (by omega)).trans (rg_l_self))).trans (sk0_1 i0_z b94_z.1).symm, rg_v_self⟩
          · exact ⟨((rg_l_other (by omega)).trans ((rg_l_other (by omega)).trans (rfl))).trans (E n (by omega)).1, ((rg_v_other (by omega)).trans ((rg_v_other (by omega)).trans (rfl))).trans (E n (by omega)).2⟩
        obtain ⟨l2_z, h2_z, f0_z, f1_z, f2_z, f3_z, f4_z, f5_z⟩ := ih_z (i + 1) _ (am_up (am_up h 162 i.toNatClampNeg (.long 0)) 163 i.toNatClampNeg (.int 0)) (((rg_v_other (by omega)).trans ((rg_v_other (by omega)).trans (rfl))).trans ex) (fun n hn_z => ((rg_v_other (by omega)).trans ((rg_v_other (by omega)).trans (rfl))).trans (EW n hn_z)) ((congrArg Int32.toInt ((rg_v_other (by omega)).trans ((rg_v_other (by omega)).trans (rfl)))).trans eL) E106 (by omega) (by omega) g0_z g1_z g2_z g3_z g4_z hc_z
        exact ⟨l2_z, h2_z, f0_z, f1_z, f2_z, rn_up (Nat.le_succ _) f3_z, f4_z, fun o k ho => (f5_z o k ho).trans ((up_ne (by omega)).trans ((up_ne (by omega)).trans (rfl)))⟩
theorem sk_m2 {r : Option Value} {h' : am_H} {kk : Int32} {fi tm : Nat → Int32} {L T : Nat} (T9 : T ≤ 99) (L9 : L ≤ 99) (hf_z : ∀ t, t < T → 1 ≤ (fi t).toInt ∧ (fi t).toInt ≤ 100) (ht : ∀ t, t < T → 1 ≤ (tm t).toInt ∧ (tm t).toInt ≤ 99) : ∀ (f m : Nat) (i : Int32) (lf : Nat → Int64) (lk : Nat → Int32) (q : skQ) (ls : am_L) (h : am_H), skG lf lk L → (∀ i : Nat, i < L → rg_l h 162 i = lf i) → (∀ i : Nat, i < L → rg_v h 163 i = lk i) → (∀ t : Nat, t < T → rg_v h 9 t = fi t) → (∀ t : Nat, t < T → rg_v h 10 t = tm t) → (rg_v h 2 9).toInt = L → (rg_v h 2 12).toInt = T → (m = 0 → ¬ q = none) → (∀ z, q = some z → rg_v h 161 0 = z.1 ∧ rg_v h 161 1 = z.2) → am_get ls 0 = some (.ref 161) → am_get ls 1 = some (.int kk) → am_get ls 2 = some (.ref 2) → am_get ls 4 = some (.int i) → 0 ≤ i.toInt → i.toInt + m = kk.toInt + 1 → kk.toInt ≤ 99 → rn f am_m116 37 ls [] h r h' → ((skI fi tm L T m lf lk q) = none ∧ r = some (.int 0)) ∨ ∃ z, (skI fi tm L T m lf lk q) = some z ∧ r = some (.int 1) ∧ rg_v h' 161 0 = z.1 ∧ rg_v h' 161 1 = z.2 := by
  intro f
  induction f with
  | zero => intro m i lf lk q ls h G E1 E2 E3 E4 eL eT q0_z qz g0_z g1_z g2_z g4_z i0_z im k9_z hc_z; exact absurd hc_z rn_0
  | succ f ih_z =>
    intro m i lf lk q ls h G E1 E2 E3 E4 eL eT q0_z qz g0_z g1_z g2_z g4_z i0_z im k9_z hc_z
    replace hc_z := rn_iload (am_cur_of (i := (69, 2, .iload 4, (0, 0, 0), 0)) (by decide +kernel)) g4_z hc_z
    replace hc_z := rn_iload_n (am_cur_of (i := (71, 1, .iload_n 1, (0, 0, 0), 0)) (by decide +kernel)) g1_z hc_z
    replace hc_z := rn_cmp (am_cur_of (i := (72, 3, .if_icmp .gt 68, (78, 0, 0), 0)) (by decide +kernel)) hc_z
    rcases hc_z with ⟨b107_z, hc_z⟩ | ⟨b107_z, hc_z⟩
    · replace b107_z : kk.toInt < i.toInt := b107_z
      obtain rfl : m = 0 := by omega
      replace hc_z := rn_iconst (w := 1) (am_cur_of (i := (140, 1, .iconst 1, (0, 0, 0), 0)) (by decide +kernel)) (by decide) hc_z
      replace hc_z := rn_iret (am_cur_of (i := (141, 1, .ireturn, (0, 0, 0), 0)) (by decide +kernel)) hc_z
      obtain ⟨e108_z, e109_z⟩ := hc_z
      rcases q with _ | z
      · exact absurd rfl (q0_z rfl)
      · exact Or.inr ⟨z, rfl, e108_z, by rw [e109_z]; exact (qz z rfl).1, by rw [e109_z]; exact (qz z rfl).2⟩
    · replace b107_z : i.toInt ≤ kk.toInt := b107_z
      obtain ⟨m, rfl⟩ : ∃ m2_z, m = m2_z + 1 := ⟨m - 1, by omega⟩
      have c1_z := rt_c1 i0_z (by omega)
      replace hc_z := rn_aload_n (am_cur_of (i := (75, 1, .aload_n 0, (0, 0, 0), 0)) (by decide +kernel)) g0_z hc_z
      replace hc_z := rn_aload_n (am_cur_of (i := (76, 1, .aload_n 2, (0, 0, 0), 0)) (by decide +kernel)) g2_z hc_z
      replace hc_z := rn_callV (M' := am_m117) (o := 161) (ar := [.ref 2]) (rest := []) (L := lv_args 0 [.ref 161, .ref 2]) (am_cur_of (i := (77, 3, .invokevirtual 36, (117, 1153, 3), 0)) (by decide +kernel)) rfl rfl rfl rfl hc_z
      obtain ⟨r110_z, h111_z, q112_z, hc_z⟩ := hc_z
      obtain ⟨er, ea, eb, ef⟩ := sk_117_2 T9 L9 E1 E2 E3 E4 eL eT q112_z
      subst er
      have F1 : ∀ n : Nat, n < L → rg_l h111_z 162 n = lf n := fun n hn_z => (rgl_v (ef 162 n (by omega))).trans (E1 n hn_z)
      have F2 : ∀ n : Nat, n < L → rg_v h111_z 163 n = lk n := fun n hn_z => (rgv_v (ef 163 n (by omega))).trans (E2 n hn_z)
      have F3 : ∀ n : Nat, n < T → rg_v h111_z 9 n = fi n := fun n hn_z => (rgv_v (ef 9 n (by omega))).trans (E3 n hn_z)
      have F4 : ∀ n : Nat, n < T → rg_v h111_z 10 n = tm n := fun n hn_z => (rgv_v (ef 10 n (by omega))).trans (E4 n hn_z)
      have fL : (rg_v h111_z 2 9).toInt = L := (congrArg Int32.toInt (rgv_v (ef 2 9 (by omega)))).trans eL
      have fT : (rg_v h111_z 2 12).toInt = T := (congrArg Int32.toInt (rgv_v (ef 2 12 (by omega)))).trans eT
      rcases skN_b L9 T9 G hf_z ht with ⟨n1_z, n2_z⟩ | ⟨l2_z, t2_z, n1_z, n2_z, ⟨l0_z, l9_z⟩, ⟨t0_z, t9_z⟩, n3_z⟩
      · replace hc_z : rn _ _ _ _ [.int 0] _ _ _ := by
          rw [if_neg n2_z] at hc_z
          exact hc_z
        replace hc_z : rn _ _ _ _ [.int 0] _ _ _ := hc_z
        replace hc_z := rn_ifF (am_cur_of (i := (80, 3, .ifCond .ne 5, (46, 0, 0), 0)) (by decide +kernel)) (by decide) hc_z
        replace hc_z := rn_iconst (w := 0) (am_cur_of (i := (83, 1, .iconst 0, (0, 0, 0), 0)) (by decide +kernel)) (by decide) hc_z
        replace hc_z := rn_iret (am_cur_of (i := (84, 1, .ireturn, (0, 0, 0), 0)) (by decide +kernel)) hc_z
        obtain ⟨e113_z, e114_z⟩ := hc_z
        exact Or.inl ⟨skI_0 n1_z, e113_z⟩
      · replace hc_z : rn _ _ _ _ [.int 1] _ _ _ := by
          rw [if_pos n2_z] at hc_z
          exact hc_z
        rw [n1_z] at ea eb
        replace ea : rg_v h111_z 161 0 = l2_z := ea
        replace eb : rg_v h111_z 161 1 = t2_z := eb
        have cl := rt_cl l0_z
        have ct := rt_cl t0_z
        replace hc_z : rn _ _ _ _ [.int 1] _ _ _ := hc_z
        replace hc_z := rn_ifT (am_cur_of (i := (80, 3, .ifCond .ne 5, (46, 0, 0), 0)) (by decide +kernel)) (by decide) hc_z
        replace hc_z := rn_aload_n (am_cur_of (i := (85, 1, .aload_n 0, (0, 0, 0), 0)) (by decide +kernel)) g0_z hc_z
        replace hc_z := rn_getR (x := 162) (am_cur_of (i := (86, 3, .getfield 9, (11, 2, 646), 0)) (by decide +kernel)) (by decide +kernel) hc_z
        replace hc_z := rn_aload_n (am_cur_of (i := (89, 1, .aload_n 0, (0, 0, 0), 0)) (by decide +kernel)) g0_z hc_z
        replace hc_z := rn_getI (v := l2_z) (am_cur_of (i := (90, 3, .getfield 40, (11, 0, 642), 0)) (by decide +kernel)) (by decide +kernel) ea hc_z
        replace hc_z := rn_aload_n (am_cur_of (i := (93, 1, .aload_n 0, (0, 0, 0), 0)) (by decide +kernel)) g0_z hc_z
        replace hc_z := rn_getR (x := 162) (am_cur_of (i := (94, 3, .getfield 9, (11, 2, 646), 0)) (by decide +kernel)) (by decide +kernel) hc_z
        replace hc_z := rn_aload_n (am_cur_of (i := (97, 1, .aload_n 0, (0, 0, 0), 0)) (by decide +kernel)) g0_z hc_z
        replace hc_z := rn_getI (v := l2_z) (am_cur_of (i := (98, 3, .getfield 40, (11, 0, 642), 0)) (by decide +kernel)) (by decide +kernel) ea hc_z
        replace hc_z := rn_laload (N := 6) (q := l2_z.toNatClampNeg) (v := lf l2_z.toNatClampNeg) (am_cur_of (i := (101, 1, .laload, (0, 0, 0), 0)) (by decide +kernel)) (by decide +kernel) rfl (F1 l2_z.toNatClampNeg (by omega)) hc_z
        obtain ⟨p115_z, hc_z⟩ := hc_z
        replace hc_z := rn_bipush (w := 100) (am_cur_of (i := (102, 2, .bipush 100, (0, 0, 0), 0)) (by decide +kernel)) (by decide) hc_z
        replace hc_z := rn_aload_n (am_cur_of (i := (104, 1, .aload_n 2, (0, 0, 0), 0)) (by decide +kernel)) g2_z hc_z
        replace hc_z := rn_getR (x := 9) (am_cur_of (i := (105, 3, .getfield 43, (1, 14, 301), 0)) (by decide +kernel)) (by decide +kernel) hc_z
        replace hc_z := rn_aload_n (am_cur_of (i := (108, 1, .aload_n 0, (0, 0, 0), 0)) (by decide +kernel)) g0_z hc_z
        replace hc_z := rn_getI (v := t2_z) (am_cur_of (i := (109, 3, .getfield 46, (11, 1, 644), 0)) (by decide +kernel)) (by decide +kernel) eb hc_z
        replace hc_z := rn_iaload (N := 3) (q := t2_z.toNatClampNeg) (v := fi t2_z.toNatClampNeg) (am_cur_of (i := (112, 1, .iaload, (0, 0, 0), 0)) (by decide +kernel)) (by decide +kernel) rfl (F3 t2_z.toNatClampNeg (by omega)) hc_z
        obtain ⟨p116_z, hc_z⟩ := hc_z
        replace hc_z := rn_isub (w := (100 : Int32) - (fi t2_z.toNatClampNeg)) (am_cur_of (i := (113, 1, .isub, (0, 0, 0), 0)) (by decide +kernel)) rfl hc_z
        replace hc_z := rn_i2l (w := ((100 : Int32) - (fi t2_z.toNatClampNeg)).toInt64) (am_cur_of (i := (114, 1, .i2l, (0, 0, 0), 0)) (by decide +kernel)) rfl hc_z
        replace hc_z := rn_lmul (w := (lf l2_z.toNatClampNeg) * (((100 : Int32) - (fi t2_z.toNatClampNeg)).toInt64)) (am_cur_of (i := (115, 1, .lmul, (0, 0, 0), 0)) (by decide +kernel)) rfl hc_z
        replace hc_z := rn_ldc2 (w := 100) (am_cur_of (i := (116, 3, .ldc2_w 49, (0, 0, 1157), 100)) (by decide +kernel)) (by decide) hc_z
        replace hc_z := rn_ldiv (w := ((lf l2_z.toNatClampNeg) * (((100 : Int32) - (fi t2_z.toNatClampNeg)).toInt64)) / 100) (am_cur_of (i := (119, 1, .ldiv, (0, 0, 0), 0)) (by decide +kernel)) rfl hc_z
        obtain ⟨d117_z, hc_z⟩ := hc_z
        replace hc_z := rn_lastore (N := 6) (q := l2_z.toNatClampNeg) (am_cur_of (i := (120, 1, .lastore, (0, 0, 0), 0)) (by decide +kernel)) (by decide +kernel) rfl hc_z
        obtain ⟨p118_z, hc_z⟩ := hc_z
        replace hc_z := rn_aload_n (am_cur_of (i := (121, 1, .aload_n 0, (0, 0, 0), 0)) (by decide +kernel)) g0_z hc_z
        replace hc_z := rn_getR (x := 163) (am_cur_of (i := (122, 3, .getfield 15, (11, 3, 647), 0)) (by decide +kernel)) (by decide +kernel) hc_z
        replace hc_z := rn_aload_n (am_cur_of (i := (125, 1, .aload_n 0, (0, 0, 0), 0)) (by decide +kernel)) g0_z hc_z
        replace hc_z := rn_getI (v := l2_z) (am_cur_of (i := (126, 3, .getfield 40, (11, 0, 642), 0)) (by decide +kernel)) (by decide +kernel) ((rg_v_other (by omega)).trans (ea)) hc_z
        replace hc_z := rn_dup2 (am_cur_of (i := (129, 1, .dup2, (0, 0, 0), 0)) (by decide +kernel)) hc_z
        replace hc_z := rn_iaload (N := 6) (q := l2_z.toNatClampNeg) (v := lk l2_z.toNatClampNeg) (am_cur_of (i := (130, 1, .iaload, (0, 0, 0), 0)) (by decide +kernel)) (by decide +kernel) rfl ((rg_v_other (by omega)).trans ((F2 l2_z.toNatClampNeg (by omega)))) hc_z
        obtain ⟨p119_z, hc_z⟩ := hc_z
        replace hc_z := rn_iconst (w := 1) (am_cur_of (i := (131, 1, .iconst 1, (0, 0, 0), 0)) (by decide +kernel)) (by decide) hc_z
        replace hc_z := rn_iadd (w := (lk l2_z.toNatClampNeg) + 1) (am_cur_of (i := (132, 1, .iadd, (0, 0, 0), 0)) (by decide +kernel)) rfl hc_z
        replace hc_z := rn_iastore (N := 6) (q := l2_z.toNatClampNeg) (am_cur_of (i := (133, 1, .iastore, (0, 0, 0), 0)) (by decide +kernel)) (by decide +kernel) rfl hc_z
        obtain ⟨p120_z, hc_z⟩ := hc_z
        replace hc_z := rn_iinc (w := i + 1) (am_cur_of (i := (134, 3, .iinc 4 1, (0, 0, 0), 0)) (by decide +kernel)) g4_z rfl hc_z
        obtain ⟨_, s121_z, s122_z, g4_z, hc_z⟩ := hc_z
        replace g0_z := s121_z 0 _ (by decide) rfl g0_z
        replace g1_z := s121_z 1 _ (by decide) rfl g1_z
        replace g2_z := s121_z 2 _ (by decide) rfl g2_z
        clear s121_z s122_z
        replace hc_z := rn_gotoL (am_cur_of (i := (137, 3, .goto (-68), (37, 0, 0), 0)) (by decide +kernel)) hc_z
        rw [skI_1 n1_z]
        refine ih_z m (i + 1) (skU lf fi l2_z t2_z) (skV lk l2_z) (some (l2_z, t2_z)) _ (am_up (am_up h111_z 162 l2_z.toNatClampNeg (.long (((lf l2_z.toNatClampNeg) * (((100 : Int32) - (fi t2_z.toNatClampNeg)).toInt64)) / 100))) 163 l2_z.toNatClampNeg (.int ((lk l2_z.toNatClampNeg) + 1))) (skG_u G hf_z (by omega) (by omega) n3_z) (fun n hn_z => ?_) (fun n hn_z => ?_) (fun n hn_z => ((rg_v_other (by omega)).trans ((rg_v_other (by omega)).trans (rfl))).trans (F3 n hn_z)) (fun n hn_z => ((rg_v_other (by omega)).trans ((rg_v_other (by omega)).trans (rfl))).trans (F4 n hn_z)) ((congrArg Int32.toInt ((rg_v_other (by omega)).trans ((rg_v_other (by omega)).trans (rfl)))).trans fL) ((congrArg Int32.toInt ((rg_v_other (by omega)).trans ((rg_v_other (by omega)).trans (rfl)))).trans fT) (fun _ z => by cases z) (fun z hz_z => ?_) g0_z g1_z g2_z g4_z (by omega) (by omega) k9_z hc_z
        · by_cases e : n = l2_z.toNatClampNeg
          · subst e
            exact (((rg_l_other (by omega)).trans (rg_l_self))).trans (if_pos rfl).symm
          · exact ((rg_l_other (by omega)).trans ((rg_l_other (by omega)).trans (rfl))).trans ((F1 n hn_z).trans (if_neg e).symm)
        · by_cases e : n = l2_z.toNatClampNeg
          · subst e
            exact (rg_v_self).trans (if_pos rfl).symm
          · exact ((rg_v_other (by omega)).trans ((rg_v_other (by omega)).trans (rfl))).trans ((F2 n hn_z).trans (if_neg e).symm)
        · cases hz_z
          exact ⟨((rg_v_other (by omega)).trans ((rg_v_other (by omega)).trans (rfl))).trans ea, ((rg_v_other (by omega)).trans ((rg_v_other (by omega)).trans (rfl))).trans eb⟩
theorem sk_116_2 {n : Nat} {r : Option Value} {h h' : am_H} {kk x : Int32} {W fi tm : Nat → Int32} {L T : Nat} (k0_z : 0 ≤ kk.toInt) (T9 : T ≤ 99) (L9 : L ≤ 99) (L6 : L ≤ 6) (hW : ∀ i, i < L → 0 ≤ (W i).toInt ∧ (W i).toInt ≤ 99) (hf_z : ∀ t, t < T → 1 ≤ (fi t).toInt ∧ (fi t).toInt ≤ 100) (ht : ∀ t, t < T → 1 ≤ (tm t).toInt ∧ (tm t).toInt ≤ 99) (ex : rg_v h 48 4 = x) (EW : ∀ n : Nat, n < L → rg_v h 6 n = W n) (E3 : ∀ t : Nat, t < T → rg_v h 9 t = fi t) (E4 : ∀ t : Nat, t < T → rg_v h 10 t = tm t) (eL : (rg_v h 2 9).toInt = L) (eT : (rg_v h 2 12).toInt = T) (hc_z : rn n am_m116 0 (lv_args 0 [.ref 161, .int kk, .ref 2, .ref 48]) [] h r h') : ((skI fi tm L T (kk.toInt.toNat + 1) (sk0_z x W) (fun _ => 0) none) = none ∧ r = some (.int 0)) ∨ ∃ z, (skI fi tm L T (kk.toInt.toNat + 1) (sk0_z x W) (fun _ => 0) none) = some z ∧ r = some (.int 1) ∧ rg_v h' 161 0 = z.1 ∧ rg_v h' 161 1 = z.2 := by
  have z18_z : (18 : Int32).toInt = 18 := by decide
  have g0_z : am_get (lv_args 0 [.ref 161, .int kk, .ref 2, .ref 48]) 0 = some (.ref 161) := rfl
  have g1_z : am_get (lv_args 0 [.ref 161, .int kk, .ref 2, .ref 48]) 1 = some (.int kk) := rfl
  have g2_z : am_get (lv_args 0 [.ref 161, .int kk, .ref 2, .ref 48]) 2 = some (.ref 2) := rfl
  have g3_z : am_get (lv_args 0 [.ref 161, .int kk, .ref 2, .ref 48]) 3 = some (.ref 48) := rfl
  replace hc_z := rn_iconst (w := 0) (am_cur_of (i := (0, 1, .iconst 0, (0, 0, 0), 0)) (by decide +kernel)) (by decide) hc_z
  replace hc_z := rn_istore (am_cur_of (i := (1, 2, .istore 4, (0, 0, 0), 0)) (by decide +kernel)) hc_z
  obtain ⟨_, s123_z, s124_z, g4_z, hc_z⟩ := hc_z
  replace g0_z := s123_z 0 _ (by decide) rfl g0_z
  replace g1_z := s123_z 1 _ (by decide) rfl g1_z
  replace g2_z := s123_z 2 _ (by decide) rfl g2_z
  replace g3_z := s123_z 3 _ (by decide) rfl g3_z
  clear s123_z s124_z
  obtain ⟨l2_z, h2_z, f0_z, f1_z, f2_z, hc_z, E, ef⟩ := sk_i2 (x := x) (W := W) L9 _ 0 _ _ ex EW eL (fun n hn_z => absurd hn_z (by rw [show (0 : Int32).toInt = 0 by decide]; omega)) (by decide) (by rw [show (0 : Int32).toInt = 0 by decide]; omega) g0_z g1_z g2_z g3_z g4_z hc_z
  clear g0_z g1_z g2_z g3_z g4_z
  have g0_z := f0_z
  have g1_z := f1_z
  have g2_z := f2_z
  have G := sk0_g (x := x) hW
  have F3 : ∀ n : Nat, n < T → rg_v h2_z 9 n = fi n := fun n hn_z => (rgv_v (ef 9 n (by omega))).trans (E3 n hn_z)
  have F4 : ∀ n : Nat, n < T → rg_v h2_z 10 n = tm n := fun n hn_z => (rgv_v (ef 10 n (by omega))).trans (E4 n hn_z)
  have fL : (rg_v h2_z 2 9).toInt = L := (congrArg Int32.toInt (rgv_v (ef 2 9 (by omega)))).trans eL
  have fT : (rg_v h2_z 2 12).toInt = T := (congrArg Int32.toInt (rgv_v (ef 2 12 (by omega)))).trans eT
  replace hc_z := rn_iload_n (am_cur_of (i := (58, 1, .iload_n 1, (0, 0, 0), 0)) (by decide +kernel)) g1_z hc_z
  replace hc_z := rn_bipush (w := 18) (am_cur_of (i := (59, 2, .bipush 18, (0, 0, 0), 0)) (by decide +kernel)) (by decide) hc_z
  replace hc_z := rn_cmp (am_cur_of (i := (61, 3, .if_icmp .lt 5, (35, 0, 0), 0)) (by decide +kernel)) hc_z
  rcases hc_z with ⟨b125_z, hc_z⟩ | ⟨b125_z, hc_z⟩
  · replace b125_z : kk.toInt < (18 : Int32).toInt := b125_z
    replace hc_z := rn_iconst (w := 0) (am_cur_of (i := (66, 1, .iconst 0, (0, 0, 0), 0)) (by decide +kernel)) (by decide) hc_z
    replace hc_z := rn_istore (am_cur_of (i := (67, 2, .istore 4, (0, 0, 0), 0)) (by decide +kernel)) hc_z
    obtain ⟨_, s126_z, s127_z, g4_z, hc_z⟩ := hc_z
    replace g0_z := s126_z 0 _ (by decide) rfl g0_z
    replace g1_z := s126_z 1 _ (by decide) rfl g1_z
    replace g2_z := s126_z 2 _ (by decide) rfl g2_z
    clear s126_z s127_z
    obtain ⟨m, em⟩ : ∃ m2_z : Nat, kk.toInt + 1 = m2_z := ⟨kk.toInt.toNat + 1, by omega⟩
    have sm := sk_m2 T9 L9 hf_z ht _ m 0 _ _ none _ _ G (fun n hn_z => (E n hn_z).1) (fun n hn_z => (E n hn_z).2) F3 F4 fL fT (fun z => by omega) (fun z hz_z => by cases hz_z) g0_z g1_z g2_z g4_z (by decide) (by rw [show (0 : Int32).toInt = 0 by decide]; omega) (by omega) hc_z
    rw [show m = kk.toInt.toNat + 1 by omega] at sm
    exact sm
  · replace b125_z : (18 : Int32).toInt ≤ kk.toInt := b125_z
    replace hc_z := rn_iconst (w := 0) (am_cur_of (i := (64, 1, .iconst 0, (0, 0, 0), 0)) (by decide +kernel)) (by decide) hc_z
    replace hc_z := rn_iret (am_cur_of (i := (65, 1, .ireturn, (0, 0, 0), 0)) (by decide +kernel)) hc_z
    obtain ⟨e128_z, e129_z⟩ := hc_z
    refine Or.inl ⟨skI_n L9 T9 hf_z ht _ _ _ none G ?_, e128_z⟩
    have c18_z : ∀ n, skC (fun _ => 0) n = 3 * n := by
      intro n
      induction n with
      | zero => rfl
      | succ n ih_z =>
        show skC (fun _ => 0) n + (3 - (0 : Int32).toInt).toNat = 3 * (n + 1)
        rw [ih_z, show (0 : Int32).toInt = 0 by decide]
        omega
    rw [c18_z]
    omega
theorem sk_i23 {r : Option Value} {h' : am_H} {x kk : Int32} {W : Nat → Int32} {L : Nat} (L9 : L ≤ 99) : ∀ (f : Nat) (i : Int32) (ls : am_L) (h : am_H), rg_v h 48 4 = x → (∀ n : Nat, n < L → rg_v h 27 n = W n) → (rg_v h 23 9).toInt = L → (∀ n : Nat, (n : Int) < i.toInt → rg_l h 162 n = sk0_z x W n ∧ rg_v h 163 n = 0) → 0 ≤ i.toInt → i.toInt ≤ L → am_get ls 0 = some (.ref 161) → am_get ls 1 = some (.int kk) → am_get ls 2 = some (.ref 23) → am_get ls 3 = some (.ref 48) → am_get ls 4 = some (.int i) → rn f am_m116 2 ls [] h r h' → ∃ l2_z h2_z, am_get l2_z 0 = some (.ref 161) ∧ am_get l2_z 1 = some (.int kk) ∧ am_get l2_z 2 = some (.ref 23) ∧ rn f am_m116 30 l2_z [] h2_z r h' ∧ (∀ n : Nat, n < L → rg_l h2_z 162 n = sk0_z x W n ∧ rg_v h2_z 163 n = 0) ∧ ∀ o k, ¬ (o = 162 ∨ o = 163) → h2_z o k = h o k := by
  intro f
  induction f with
  | zero => intro i ls h ex EW eL E i0_z iL g0_z g1_z g2_z g3_z g4_z hc_z; exact absurd hc_z rn_0
  | succ f ih_z =>
    intro i ls h ex EW eL E i0_z iL g0_z g1_z g2_z g3_z g4_z hc_z
    have ci_z := rt_cl i0_z
    have z0_z : (0 : Int32).toInt = 0 := by decide
    replace hc_z := rn_iload (am_cur_of (i := (3, 2, .iload 4, (0, 0, 0), 0)) (by decide +kernel)) g4_z hc_z
    replace hc_z := rn_aload_n (am_cur_of (i := (5, 1, .aload_n 2, (0, 0, 0), 0)) (by decide +kernel)) g2_z hc_z
    replace hc_z := rn_getI (v := rg_v h 23 9) (am_cur_of (i := (6, 3, .getfield 19, (1, 9, 283), 0)) (by decide +kernel)) (by decide +kernel) rfl hc_z
    replace hc_z := rn_cmp (am_cur_of (i := (9, 3, .if_icmp .ge 49, (30, 0, 0), 0)) (by decide +kernel)) hc_z
    rcases hc_z with ⟨b130_z, hc_z⟩ | ⟨b130_z, hc_z⟩
    · replace b130_z : (rg_v h 23 9).toInt ≤ i.toInt := b130_z
      exact ⟨_, _, g0_z, g1_z, g2_z, hc_z, fun n hn_z => E n (by omega), fun _ _ _ => rfl⟩
    · replace b130_z : i.toInt < (rg_v h 23 9).toInt := b130_z
      have c1_z := rt_c1 i0_z (by omega)
      replace hc_z := rn_aload_n (am_cur_of (i := (12, 1, .aload_n 0, (0, 0, 0), 0)) (by decide +kernel)) g0_z hc_z
      replace hc_z := rn_getR (x := 162) (am_cur_of (i := (13, 3, .getfield 9, (11, 2, 646), 0)) (by decide +kernel)) (by decide +kernel) hc_z
      replace hc_z := rn_iload (am_cur_of (i := (16, 2, .iload 4, (0, 0, 0), 0)) (by decide +kernel)) g4_z hc_z
      replace hc_z := rn_aload_n (am_cur_of (i := (18, 1, .aload_n 3, (0, 0, 0), 0)) (by decide +kernel)) g3_z hc_z
      replace hc_z := rn_iload (am_cur_of (i := (19, 2, .iload 4, (0, 0, 0), 0)) (by decide +kernel)) g4_z hc_z
      replace hc_z := rn_callV (M' := am_m76) (o := 48) (ar := [.int i]) (rest := [.int i, .ref 162]) (L := lv_args 0 [.ref 48, .int i]) (am_cur_of (i := (21, 3, .invokevirtual 25, (76, 1151, 3), 0)) (by decide +kernel)) rfl rfl rfl rfl hc_z
      obtain ⟨r131_z, h132_z, q133_z, hc_z⟩ := hc_z
      rcases sk_76 q133_z with ⟨b134_z, rfl, y135_z⟩ | ⟨b136_z, rfl, y137_z⟩
      · replace y135_z := y135_z.symm
        subst y135_z
        replace b134_z : ((((rg_v h 48 4)) >>> (i &&& 31)) &&& 1) = (0 : Int32) ∧ ((((rg_v h 48 4)) >>> (i &&& 31)) &&& 1).toInt = (0 : Int32).toInt := b134_z
        replace hc_z : rn _ _ _ _ [.int 0, .int i, .ref 162] _ _ _ := hc_z
        replace hc_z := rn_ifT (am_cur_of (i := (24, 3, .ifCond .eq 7, (15, 0, 0), 0)) (by decide +kernel)) (by decide) hc_z
        replace hc_z := rn_aload_n (am_cur_of (i := (31, 1, .aload_n 2, (0, 0, 0), 0)) (by decide +kernel)) g2_z hc_z
        replace hc_z := rn_getR (x := 27) (am_cur_of (i := (32, 3, .getfield 31, (1, 10, 288), 0)) (by decide +kernel)) (by decide +kernel) hc_z
        replace hc_z := rn_iload (am_cur_of (i := (35, 2, .iload 4, (0, 0, 0), 0)) (by decide +kernel)) g4_z hc_z
        replace hc_z := rn_iaload (N := 6) (q := i.toNatClampNeg) (v := W i.toNatClampNeg) (am_cur_of (i := (37, 1, .iaload, (0, 0, 0), 0)) (by decide +kernel)) (by decide +kernel) rfl (EW i.toNatClampNeg (by omega)) hc_z
        obtain ⟨p138_z, hc_z⟩ := hc_z
        replace hc_z := rn_i2l (w := (W i.toNatClampNeg).toInt64) (am_cur_of (i := (38, 1, .i2l, (0, 0, 0), 0)) (by decide +kernel)) rfl hc_z
        replace hc_z := rn_ldc2 (w := 1000000) (am_cur_of (i := (39, 3, .ldc2_w 34, (0, 0, 1152), 1000000)) (by decide +kernel)) (by decide) hc_z
        replace hc_z := rn_lmul (w := ((W i.toNatClampNeg).toInt64) * 1000000) (am_cur_of (i := (42, 1, .lmul, (0, 0, 0), 0)) (by decide +kernel)) rfl hc_z
        replace hc_z := rn_lastore (N := 6) (q := i.toNatClampNeg) (am_cur_of (i := (43, 1, .lastore, (0, 0, 0), 0)) (by decide +kernel)) (by decide +kernel) rfl hc_z
        obtain ⟨p139_z, hc_z⟩ := hc_z
        replace hc_z := rn_aload_n (am_cur_of (i := (44, 1, .aload_n 0, (0, 0, 0), 0)) (by decide +kernel)) g0_z hc_z
        replace hc_z := rn_getR (x := 163) (am_cur_of (i := (45, 3, .getfield 15, (11, 3, 647), 0)) (by decide +kernel)) (by decide +kernel) hc_z
        replace hc_z := rn_iload (am_cur_of (i := (48, 2, .iload 4, (0, 0, 0), 0)) (by decide +kernel)) g4_z hc_z
        replace hc_z := rn_iconst (w := 0) (am_cur_of (i := (50, 1, .iconst 0, (0, 0, 0), 0)) (by decide +kernel)) (by decide) hc_z
        replace hc_z := rn_iastore (N := 6) (q := i.toNatClampNeg) (am_cur_of (i := (51, 1, .iastore, (0, 0, 0), 0)) (by decide +kernel)) (by decide +kernel) rfl hc_z
        obtain ⟨p140_z, hc_z⟩ := hc_z
        replace hc_z := rn_iinc (w := i + 1) (am_cur_of (i := (52, 3, .iinc 4 1, (0, 0, 0), 0)) (by decide +kernel)) g4_z rfl hc_z
        obtain ⟨_, s141_z, s142_z, g4_z, hc_z⟩ := hc_z
        replace g0_z := s141_z 0 _ (by decide) rfl g0_z
        replace g1_z := s141_z 1 _ (by decide) rfl g1_z
        replace g2_z := s141_z 2 _ (by decide) rfl g2_z
        replace g3_z := s141_z 3 _ (by decide) rfl g3_z
        clear s141_z s142_z
        replace hc_z := rn_gotoL (am_cur_of (i := (55, 3, .goto (-52), (2, 0, 0), 0)) (by decide +kernel)) hc_z
        rw [ex] at b134_z
        have E143 : ∀ n : Nat, (n : Int) < (i + 1).toInt → rg_l (am_up (am_up h 162 i.toNatClampNeg (.long (((W i.toNatClampNeg).toInt64) * 1000000))) 163 i.toNatClampNeg (.int 0)) 162 n = sk0_z x W n ∧ rg_v (am_up (am_up h 162 i.toNatClampNeg (.long (((W i.toNatClampNeg).toInt64) * 1000000))) 163 i.toNatClampNeg (.int 0)) 163 n = 0 := by
          intro n hn_z
          by_cases e : n = i.toNatClampNeg
          · subst e
            exact ⟨(((rg_l_other (by omega)).trans (rg_l_self))).trans (sk0_0 i0_z b134_z.1).symm, rg_v_self⟩
          · exact ⟨((rg_l_other (by omega)).trans ((rg_l_other (by omega)).trans (rfl))).trans (E n (by omega)).1, ((rg_v_other (by omega)).trans ((rg_v_other (by omega)).trans (rfl))).trans (E n (by omega)).2⟩
        obtain ⟨l2_z, h2_z, f0_z, f1_z, f2_z, f3_z, f4_z, f5_z⟩ := ih_z (i + 1) _ (am_up (am_up h 162 i.toNatClampNeg (.long (((W i.toNatClampNeg).toInt64) * 1000000))) 163 i.toNatClampNeg (.int 0)) (((rg_v_other (by omega)).trans ((rg_v_other (by omega)).trans (rfl))).trans ex) (fun n hn_z => ((rg_v_other (by omega)).trans ((rg_v_other (by omega)).trans (rfl))).trans (EW n hn_z)) ((congrArg Int32.toInt ((rg_v_other (by omega)).trans ((rg_v_other (by omega)).trans (rfl)))).trans eL) E143 (by omega) (by omega) g0_z g1_z g2_z g3_z g4_z hc_z
        exact ⟨l2_z, h2_z, f0_z, f1_z, f2_z, rn_up (Nat.le_succ _) f3_z, f4_z, fun o k ho => (f5_z o k ho).trans ((up_ne (by omega)).trans ((up_ne (by omega)).trans (rfl)))⟩
      · replace y137_z := y137_z.symm
        subst y137_z
        replace b136_z : ¬ ((((rg_v h 48 4)) >>> (i &&& 31)) &&& 1) = (0 : Int32) ∧ ¬ ((((rg_v h 48 4)) >>> (i &&& 31)) &&& 1).toInt = (0 : Int32).toInt := b136_z
        replace hc_z : rn _ _ _ _ [.int 1, .int i, .ref 162] _ _ _ := hc_z
        replace hc_z := rn_ifF (am_cur_of (i := (24, 3, .ifCond .eq 7, (15, 0, 0), 0)) (by decide +kernel)) (by decide) hc_z
        replace hc_z := rn_lconst (w := 0) (am_cur_of (i := (27, 1, .lconst 0, (0, 0, 0), 0)) (by decide +kernel)) rfl hc_z
        replace hc_z := rn_goto (am_cur_of (i := (28, 3, .goto 15, (22, 0, 0), 0)) (by decide +kernel)) hc_z
        replace hc_z := rn_lastore (N := 6) (q := i.toNatClampNeg) (am_cur_of (i := (43, 1, .lastore, (0, 0, 0), 0)) (by decide +kernel)) (by decide +kernel) rfl hc_z
        obtain ⟨p144_z, hc_z⟩ := hc_z
        replace hc_z := rn_aload_n (am_cur_of (i := (44, 1, .aload_n 0, (0, 0, 0), 0)) (by decide +kernel)) g0_z hc_z
        replace hc_z := rn_getR (x := 163) (am_cur_of (i := (45, 3, .getfield 15, (11, 3, 647), 0)) (by decide +kernel)) (by decide +kernel) hc_z
        replace hc_z := rn_iload (am_cur_of (i := (48, 2, .iload 4, (0, 0, 0), 0)) (by decide +kernel)) g4_z hc_z
        replace hc_z := rn_iconst (w := 0) (am_cur_of (i := (50, 1, .iconst 0, (0, 0, 0), 0)) (by decide +kernel)) (by decide) hc_z
        replace hc_z := rn_iastore (N := 6) (q := i.toNatClampNeg) (am_cur_of (i := (51, 1, .iastore, (0, 0, 0), 0)) (by decide +kernel)) (by decide +kernel) rfl hc_z
        obtain ⟨p145_z, hc_z⟩ := hc_z
        replace hc_z := rn_iinc (w := i + 1) (am_cur_of (i := (52, 3, .iinc 4 1, (0, 0, 0), 0)) (by decide +kernel)) g4_z rfl hc_z
        obtain ⟨_, s146_z, s147_z, g4_z, hc_z⟩ := hc_z
        replace g0_z := s146_z 0 _ (by decide) rfl g0_z
        replace g1_z := s146_z 1 _ (by decide) rfl g1_z
        replace g2_z := s146_z 2 _ (by decide) rfl g2_z
        replace g3_z := s146_z 3 _ (by decide) rfl g3_z
        clear s146_z s147_z
        replace hc_z := rn_gotoL (am_cur_of (i := (55, 3, .goto (-52), (2, 0, 0), 0)) (by decide +kernel)) hc_z
        rw [ex] at b136_z
        have E148 : ∀ n : Nat, (n : Int) < (i + 1).toInt → rg_l (am_up (am_up h 162 i.toNatClampNeg (.long 0)) 163 i.toNatClampNeg (.int 0)) 162 n = sk0_z x W n ∧ rg_v (am_up (am_up h 162 i.toNatClampNeg (.long 0)) 163 i.toNatClampNeg (.int 0)) 163 n = 0 := by
          intro n hn_z
          by_cases e : n = i.toNatClampNeg
          · subst e
            exact ⟨(((rg_l_other (by omega)).trans (rg_l_self))).trans (sk0_1 i0_z b136_z.1).symm, rg_v_self⟩
          · exact ⟨((rg_l_other (by omega)).trans ((rg_l_other (by omega)).trans (rfl))).trans (E n (by omega)).1, ((rg_v_other (by omega)).trans ((rg_v_other (by omega)).trans (rfl))).trans (E n (by omega)).2⟩
        obtain ⟨l2_z, h2_z, f0_z, f1_z, f2_z, f3_z, f4_z, f5_z⟩ := ih_z (i + 1) _ (am_up (am_up h 162 i.toNatClampNeg (.long 0)) 163 i.toNatClampNeg (.int 0)) (((rg_v_other (by omega)).trans ((rg_v_other (by omega)).trans (rfl))).trans ex) (fun n hn_z => ((rg_v_other (by omega)).trans ((rg_v_other (by omega)).trans (rfl))).trans (EW n hn_z)) ((congrArg Int32.toInt ((rg_v_other (by omega)).trans ((rg_v_other (by omega)).trans (rfl)))).trans eL) E148 (by omega) (by omega) g0_z g1_z g2_z g3_z g4_z hc_z
        exact ⟨l2_z, h2_z, f0_z, f1_z, f2_z, rn_up (Nat.le_succ _) f3_z, f4_z, fun o k ho => (f5_z o k ho).trans ((up_ne (by omega)).trans ((up_ne (by omega)).trans (rfl)))⟩
theorem sk_m23 {r : Option Value} {h' : am_H} {kk : Int32} {fi tm : Nat → Int32} {L T : Nat} (T9 : T ≤ 99) (L9 : L ≤ 99) (hf_z : ∀ t, t < T → 1 ≤ (fi t).toInt ∧ (fi t).toInt ≤ 100) (ht : ∀ t, t < T → 1 ≤ (tm t).toInt ∧ (tm t).toInt ≤ 99) : ∀ (f m : Nat) (i : Int32) (lf : Nat → Int64) (lk : Nat → Int32) (q : skQ) (ls : am_L) (h : am_H), skG lf lk L → (∀ i : Nat, i < L → rg_l h 162 i = lf i) → (∀ i : Nat, i < L → rg_v h 163 i = lk i) → (∀ t : Nat, t < T → rg_v h 30 t = fi t) → (∀ t : Nat, t < T → rg_v h 31 t = tm t) → (rg_v h 23 9).toInt = L → (rg_v h 23 12).toInt = T → (m = 0 → ¬ q = none) → (∀ z, q = some z → rg_v h 161 0 = z.1 ∧ rg_v h 161 1 = z.2) → am_get ls 0 = some (.ref 161) → am_get ls 1 = some (.int kk) → am_get ls 2 = some (.ref 23) → am_get ls 4 = some (.int i) → 0 ≤ i.toInt → i.toInt + m = kk.toInt + 1 → kk.toInt ≤ 99 → rn f am_m116 37 ls [] h r h' → ((skI fi tm L T m lf lk q) = none ∧ r = some (.int 0)) ∨ ∃ z, (skI fi tm L T m lf lk q) = some z ∧ r = some (.int 1) ∧ rg_v h' 161 0 = z.1 ∧ rg_v h' 161 1 = z.2 := by
  intro f
  induction f with
  | zero => intro m i lf lk q ls h G E1 E2 E3 E4 eL eT q0_z qz g0_z g1_z g2_z g4_z i0_z im k9_z hc_z; exact absurd hc_z rn_0
  | succ f ih_z =>
    intro m i lf lk q ls h G E1 E2 E3 E4 eL eT q0_z qz g0_z g1_z g2_z g4_z i0_z im k9_z hc_z
    replace hc_z := rn_iload (am_cur_of (i := (69, 2, .iload 4, (0, 0, 0), 0)) (by decide +kernel)) g4_z hc_z
    replace hc_z := rn_iload_n (am_cur_of (i := (71, 1, .iload_n 1, (0, 0, 0), 0)) (by decide +kernel)) g1_z hc_z
    replace hc_z := rn_cmp (am_cur_of (i := (72, 3, .if_icmp .gt 68, (78, 0, 0), 0)) (by decide +kernel)) hc_z
    rcases hc_z with ⟨b149_z, hc_z⟩ | ⟨b149_z, hc_z⟩
    · replace b149_z : kk.toInt < i.toInt := b149_z
      obtain rfl : m = 0 := by omega
      replace hc_z := rn_iconst (w := 1) (am_cur_of (i := (140, 1, .iconst 1, (0, 0, 0), 0)) (by decide +kernel)) (by decide) hc_z
      replace hc_z := rn_iret (am_cur_of (i := (141, 1, .ireturn, (0, 0, 0), 0)) (by decide +kernel)) hc_z
      obtain ⟨e150_z, e151_z⟩ := hc_z
      rcases q with _ | z
      · exact absurd rfl (q0_z rfl)
      · exact Or.inr ⟨z, rfl, e150_z, by rw [e151_z]; exact (qz z rfl).1, by rw [e151_z]; exact (qz z rfl).2⟩
    · replace b149_z : i.toInt ≤ kk.toInt := b149_z
      obtain ⟨m, rfl⟩ : ∃ m2_z, m = m2_z + 1 := ⟨m - 1, by omega⟩
      have c1_z := rt_c1 i0_z (by omega)
      replace hc_z := rn_aload_n (am_cur_of (i := (75, 1, .aload_n 0, (0, 0, 0), 0)) (by decide +kernel)) g0_z hc_z
      replace hc_z := rn_aload_n (am_cur_of (i := (76, 1, .aload_n 2, (0, 0, 0), 0)) (by decide +kernel)) g2_z hc_z
      replace hc_z := rn_callV (M' := am_m117) (o := 161) (ar := [.ref 23]) (rest := []) (L := lv_args 0 [.ref 161, .ref 23]) (am_cur_of (i := (77, 3, .invokevirtual 36, (117, 1153, 3), 0)) (by decide +kernel)) rfl rfl rfl rfl hc_z
      obtain ⟨r152_z, h153_z, q154_z, hc_z⟩ := hc_z
      obtain ⟨er, ea, eb, ef⟩ := sk_117_23 T9 L9 E1 E2 E3 E4 eL eT q154_z
      subst er
      have F1 : ∀ n : Nat, n < L → rg_l h153_z 162 n = lf n := fun n hn_z => (rgl_v (ef 162 n (by omega))).trans (E1 n hn_z)
      have F2 : ∀ n : Nat, n < L → rg_v h153_z 163 n = lk n := fun n hn_z => (rgv_v (ef 163 n (by omega))).trans (E2 n hn_z)
      have F3 : ∀ n : Nat, n < T → rg_v h153_z 30 n = fi n := fun n hn_z => (rgv_v (ef 30 n (by omega))).trans (E3 n hn_z)
      have F4 : ∀ n : Nat, n < T → rg_v h153_z 31 n = tm n := fun n hn_z => (rgv_v (ef 31 n (by omega))).trans (E4 n hn_z)
      have fL : (rg_v h153_z 23 9).toInt = L := (congrArg Int32.toInt (rgv_v (ef 23 9 (by omega)))).trans eL
      have fT : (rg_v h153_z 23 12).toInt = T := (congrArg Int32.toInt (rgv_v (ef 23 12 (by omega)))).trans eT
      rcases skN_b L9 T9 G hf_z ht with ⟨n1_z, n2_z⟩ | ⟨l2_z, t2_z, n1_z, n2_z, ⟨l0_z, l9_z⟩, ⟨t0_z, t9_z⟩, n3_z⟩
      · replace hc_z : rn _ _ _ _ [.int 0] _ _ _ := by
          rw [if_neg n2_z] at hc_z
          exact hc_z
        replace hc_z : rn _ _ _ _ [.int 0] _ _ _ := hc_z
        replace hc_z := rn_ifF (am_cur_of (i := (80, 3, .ifCond .ne 5, (46, 0, 0), 0)) (by decide +kernel)) (by decide) hc_z
        replace hc_z := rn_iconst (w := 0) (am_cur_of (i := (83, 1, .iconst 0, (0, 0, 0), 0)) (by decide +kernel)) (by decide) hc_z
        replace hc_z := rn_iret (am_cur_of (i := (84, 1, .ireturn, (0, 0, 0), 0)) (by decide +kernel)) hc_z
        obtain ⟨e155_z, e156_z⟩ := hc_z
        exact Or.inl ⟨skI_0 n1_z, e155_z⟩
      · replace hc_z : rn _ _ _ _ [.int 1] _ _ _ := by
          rw [if_pos n2_z] at hc_z
          exact hc_z
        rw [n1_z] at ea eb
        replace ea : rg_v h153_z 161 0 = l2_z := ea
        replace eb : rg_v h153_z 161 1 = t2_z := eb
        have cl := rt_cl l0_z
        have ct := rt_cl t0_z
        replace hc_z : rn _ _ _ _ [.int 1] _ _ _ := hc_z
        replace hc_z := rn_ifT (am_cur_of (i := (80, 3, .ifCond .ne 5, (46, 0, 0), 0)) (by decide +kernel)) (by decide) hc_z
        replace hc_z := rn_aload_n (am_cur_of (i := (85, 1, .aload_n 0, (0, 0, 0), 0)) (by decide +kernel)) g0_z hc_z
        replace hc_z := rn_getR (x := 162) (am_cur_of (i := (86, 3, .getfield 9, (11, 2, 646), 0)) (by decide +kernel)) (by decide +kernel) hc_z
        replace hc_z := rn_aload_n (am_cur_of (i := (89, 1, .aload_n 0, (0, 0, 0), 0)) (by decide +kernel)) g0_z hc_z
        replace hc_z := rn_getI (v := l2_z) (am_cur_of (i := (90, 3, .getfield 40, (11, 0, 642), 0)) (by decide +kernel)) (by decide +kernel) ea hc_z
        replace hc_z := rn_aload_n (am_cur_of (i := (93, 1, .aload_n 0, (0, 0, 0), 0)) (by decide +kernel)) g0_z hc_z
        replace hc_z := rn_getR (x := 162) (am_cur_of (i := (94, 3, .getfield 9, (11, 2, 646), 0)) (by decide +kernel)) (by decide +kernel) hc_z
        replace hc_z := rn_aload_n (am_cur_of (i := (97, 1, .aload_n 0, (0, 0, 0), 0)) (by decide +kernel)) g0_z hc_z
        replace hc_z := rn_getI (v := l2_z) (am_cur_of (i := (98, 3, .getfield 40, (11, 0, 642), 0)) (by decide +kernel)) (by decide +kernel) ea hc_z
        replace hc_z := rn_laload (N := 6) (q := l2_z.toNatClampNeg) (v := lf l2_z.toNatClampNeg) (am_cur_of (i := (101, 1, .laload, (0, 0, 0), 0)) (by decide +kernel)) (by decide +kernel) rfl (F1 l2_z.toNatClampNeg (by omega)) hc_z
        obtain ⟨p157_z, hc_z⟩ := hc_z
        replace hc_z := rn_bipush (w := 100) (am_cur_of (i := (102, 2, .bipush 100, (0, 0, 0), 0)) (by decide +kernel)) (by decide) hc_z
        replace hc_z := rn_aload_n (am_cur_of (i := (104, 1, .aload_n 2, (0, 0, 0), 0)) (by decide +kernel)) g2_z hc_z
        replace hc_z := rn_getR (x := 30) (am_cur_of (i := (105, 3, .getfield 43, (1, 14, 301), 0)) (by decide +kernel)) (by decide +kernel) hc_z
        replace hc_z := rn_aload_n (am_cur_of (i := (108, 1, .aload_n 0, (0, 0, 0), 0)) (by decide +kernel)) g0_z hc_z
        replace hc_z := rn_getI (v := t2_z) (am_cur_of (i := (109, 3, .getfield 46, (11, 1, 644), 0)) (by decide +kernel)) (by decide +kernel) eb hc_z
        replace hc_z := rn_iaload (N := 3) (q := t2_z.toNatClampNeg) (v := fi t2_z.toNatClampNeg) (am_cur_of (i := (112, 1, .iaload, (0, 0, 0), 0)) (by decide +kernel)) (by decide +kernel) rfl (F3 t2_z.toNatClampNeg (by omega)) hc_z
        obtain ⟨p158_z, hc_z⟩ := hc_z
        replace hc_z := rn_isub (w := (100 : Int32) - (fi t2_z.toNatClampNeg)) (am_cur_of (i := (113, 1, .isub, (0, 0, 0), 0)) (by decide +kernel)) rfl hc_z
        replace hc_z := rn_i2l (w := ((100 : Int32) - (fi t2_z.toNatClampNeg)).toInt64) (am_cur_of (i := (114, 1, .i2l, (0, 0, 0), 0)) (by decide +kernel)) rfl hc_z
        replace hc_z := rn_lmul (w := (lf l2_z.toNatClampNeg) * (((100 : Int32) - (fi t2_z.toNatClampNeg)).toInt64)) (am_cur_of (i := (115, 1, .lmul, (0, 0, 0), 0)) (by decide +kernel)) rfl hc_z
        replace hc_z := rn_ldc2 (w := 100) (am_cur_of (i := (116, 3, .ldc2_w 49, (0, 0, 1157), 100)) (by decide +kernel)) (by decide) hc_z
        replace hc_z := rn_ldiv (w := ((lf l2_z.toNatClampNeg) * (((100 : Int32) - (fi t2_z.toNatClampNeg)).toInt64)) / 100) (am_cur_of (i := (119, 1, .ldiv, (0, 0, 0), 0)) (by decide +kernel)) rfl hc_z
        obtain ⟨d159_z, hc_z⟩ := hc_z
        replace hc_z := rn_lastore (N := 6) (q := l2_z.toNatClampNeg) (am_cur_of (i := (120, 1, .lastore, (0, 0, 0), 0)) (by decide +kernel)) (by decide +kernel) rfl hc_z
        obtain ⟨p160_z, hc_z⟩ := hc_z
        replace hc_z := rn_aload_n (am_cur_of (i := (121, 1, .aload_n 0, (0, 0, 0), 0)) (by decide +kernel)) g0_z hc_z
        replace hc_z := rn_getR (x := 163) (am_cur_of (i := (122, 3, .getfield 15, (11, 3, 647), 0)) (by decide +kernel)) (by decide +kernel) hc_z
        replace hc_z := rn_aload_n (am_cur_of (i := (125, 1, .aload_n 0, (0, 0, 0), 0)) (by decide +kernel)) g0_z hc_z
        replace hc_z := rn_getI (v := l2_z) (am_cur_of (i := (126, 3, .getfield 40, (11, 0, 642), 0)) (by decide +kernel)) (by decide +kernel) ((rg_v_other (by omega)).trans (ea)) hc_z
        replace hc_z := rn_dup2 (am_cur_of (i := (129, 1, .dup2, (0, 0, 0), 0)) (by decide +kernel)) hc_z
        replace hc_z := rn_iaload (N := 6) (q := l2_z.toNatClampNeg) (v := lk l2_z.toNatClampNeg) (am_cur_of (i := (130, 1, .iaload, (0, 0, 0), 0)) (by decide +kernel)) (by decide +kernel) rfl ((rg_v_other (by omega)).trans ((F2 l2_z.toNatClampNeg (by omega)))) hc_z
        obtain ⟨p161_z, hc_z⟩ := hc_z
        replace hc_z := rn_iconst (w := 1) (am_cur_of (i := (131, 1, .iconst 1, (0, 0, 0), 0)) (by decide +kernel)) (by decide) hc_z
        replace hc_z := rn_iadd (w := (lk l2_z.toNatClampNeg) + 1) (am_cur_of (i := (132, 1, .iadd, (0, 0, 0), 0)) (by decide +kernel)) rfl hc_z
        replace hc_z := rn_iastore (N := 6) (q := l2_z.toNatClampNeg) (am_cur_of (i := (133, 1, .iastore, (0, 0, 0), 0)) (by decide +kernel)) (by decide +kernel) rfl hc_z
        obtain ⟨p162_z, hc_z⟩ := hc_z
        replace hc_z := rn_iinc (w := i + 1) (am_cur_of (i := (134, 3, .iinc 4 1, (0, 0, 0), 0)) (by decide +kernel)) g4_z rfl hc_z
        obtain ⟨_, s163_z, s164_z, g4_z, hc_z⟩ := hc_z
        replace g0_z := s163_z 0 _ (by decide) rfl g0_z
        replace g1_z := s163_z 1 _ (by decide) rfl g1_z
        replace g2_z := s163_z 2 _ (by decide) rfl g2_z
        clear s163_z s164_z
        replace hc_z := rn_gotoL (am_cur_of (i := (137, 3, .goto (-68), (37, 0, 0), 0)) (by decide +kernel)) hc_z
        rw [skI_1 n1_z]
        refine ih_z m (i + 1) (skU lf fi l2_z t2_z) (skV lk l2_z) (some (l2_z, t2_z)) _ (am_up (am_up h153_z 162 l2_z.toNatClampNeg (.long (((lf l2_z.toNatClampNeg) * (((100 : Int32) - (fi t2_z.toNatClampNeg)).toInt64)) / 100))) 163 l2_z.toNatClampNeg (.int ((lk l2_z.toNatClampNeg) + 1))) (skG_u G hf_z (by omega) (by omega) n3_z) (fun n hn_z => ?_) (fun n hn_z => ?_) (fun n hn_z => ((rg_v_other (by omega)).trans ((rg_v_other (by omega)).trans (rfl))).trans (F3 n hn_z)) (fun n hn_z => ((rg_v_other (by omega)).trans ((rg_v_other (by omega)).trans (rfl))).trans (F4 n hn_z)) ((congrArg Int32.toInt ((rg_v_other (by omega)).trans ((rg_v_other (by omega)).trans (rfl)))).trans fL) ((congrArg Int32.toInt ((rg_v_other (by omega)).trans ((rg_v_other (by omega)).trans (rfl)))).trans fT) (fun _ z => by cases z) (fun z hz_z => ?_) g0_z g1_z g2_z g4_z (by omega) (by omega) k9_z hc_z
        · by_cases e : n = l2_z.toNatClampNeg
          · subst e
            exact (((rg_l_other (by omega)).trans (rg_l_self))).trans (if_pos rfl).symm
          · exact ((rg_l_other (by omega)).trans ((rg_l_other (by omega)).trans (rfl))).trans ((F1 n hn_z).trans (if_neg e).symm)
        · by_cases e : n = l2_z.toNatClampNeg
          · subst e
            exact (rg_v_self).trans (if_pos rfl).symm
          · exact ((rg_v_other (by omega)).trans ((rg_v_other (by omega)).trans (rfl))).trans ((F2 n hn_z).trans (if_neg e).symm)
        · cases hz_z
          exact ⟨((rg_v_other (by omega)).trans ((rg_v_other (by omega)).trans (rfl))).trans ea, ((rg_v_other (by omega)).trans ((rg_v_other (by omega)).trans (rfl))).trans eb⟩
theorem sk_116_23 {n : Nat} {r : Option Value} {h h' : am_H} {kk x : Int32} {W fi tm : Nat → Int32} {L T : Nat} (k0_z : 0 ≤ kk.toInt) (T9 : T ≤ 99) (L9 : L ≤ 99) (L6 : L ≤ 6) (hW : ∀ i, i < L → 0 ≤ (W i).toInt ∧ (W i).toInt ≤ 99) (hf_z : ∀ t, t < T → 1 ≤ (fi t).toInt ∧ (fi t).toInt ≤ 100) (ht : ∀ t, t < T → 1 ≤ (tm t).toInt ∧ (tm t).toInt ≤ 99) (ex : rg_v h 48 4 = x) (EW : ∀ n : Nat, n < L → rg_v h 27 n = W n) (E3 : ∀ t : Nat, t < T → rg_v h 30 t = fi t) (E4 : ∀ t : Nat, t < T → rg_v h 31 t = tm t) (eL : (rg_v h 23 9).toInt = L) (eT : (rg_v h 23 12).toInt = T) (hc_z : rn n am_m116 0 (lv_args 0 [.ref 161, .int kk, .ref 23, .ref 48]) [] h r h') : ((skI fi tm L T (kk.toInt.toNat + 1) (sk0_z x W) (fun _ => 0) none) = none ∧ r = some (.int 0)) ∨ ∃ z, (skI fi tm L T (kk.toInt.toNat + 1) (sk0_z x W) (fun _ => 0) none) = some z ∧ r = some (.int 1) ∧ rg_v h' 161 0 = z.1 ∧ rg_v h' 161 1 = z.2 := by
  have z18_z : (18 : Int32).toInt = 18 := by decide
  have g0_z : am_get (lv_args 0 [.ref 161, .int kk, .ref 23, .ref 48]) 0 = some (.ref 161) := rfl
  have g1_z : am_get (lv_args 0 [.ref 161, .int kk, .ref 23, .ref 48]) 1 = some (.int kk) := rfl
  have g2_z : am_get (lv_args 0 [.ref 161, .int kk, .ref 23, .ref 48]) 2 = some (.ref 23) := rfl
  have g3_z : am_get (lv_args 0 [.ref 161, .int kk, .ref 23, .ref 48]) 3 = some (.ref 48) := rfl
  replace hc_z := rn_iconst (w := 0) (am_cur_of (i := (0, 1, .iconst 0, (0, 0, 0), 0)) (by decide +kernel)) (by decide) hc_z
  replace hc_z := rn_istore (am_cur_of (i := (1, 2, .istore 4, (0, 0, 0), 0)) (by decide +kernel)) hc_z
  obtain ⟨_, s165_z, s166_z, g4_z, hc_z⟩ := hc_z
  replace g0_z := s165_z 0 _ (by decide) rfl g0_z
  replace g1_z := s165_z 1 _ (by decide) rfl g1_z
  replace g2_z := s165_z 2 _ (by decide) rfl g2_z
  replace g3_z := s165_z 3 _ (by decide) rfl g3_z
  clear s165_z s166_z
  obtain ⟨l2_z, h2_z, f0_z, f1_z, f2_z, hc_z, E, ef⟩ := sk_i23 (x := x) (W := W) L9 _ 0 _ _ ex EW eL (fun n hn_z => absurd hn_z (by rw [show (0 : Int32).toInt = 0 by decide]; omega)) (by decide) (by rw [show (0 : Int32).toInt = 0 by decide]; omega) g0_z g1_z g2_z g3_z g4_z hc_z
  clear g0_z g1_z g2_z g3_z g4_z
  have g0_z := f0_z
  have g1_z := f1_z
  have g2_z := f2_z
  have G := sk0_g (x := x) hW
  have F3 : ∀ n : Nat, n < T → rg_v h2_z 30 n = fi n := fun n hn_z => (rgv_v (ef 30 n (by omega))).trans (E3 n hn_z)
  have F4 : ∀ n : Nat, n < T → rg_v h2_z 31 n = tm n := fun n hn_z => (rgv_v (ef 31 n (by omega))).trans (E4 n hn_z)
  have fL : (rg_v h2_z 23 9).toInt = L := (congrArg Int32.toInt (rgv_v (ef 23 9 (by omega)))).trans eL
  have fT : (rg_v h2_z 23 12).toInt = T := (congrArg Int32.toInt (rgv_v (ef 23 12 (by omega)))).trans eT
  replace hc_z := rn_iload_n (am_cur_of (i := (58, 1, .iload_n 1, (0, 0, 0), 0)) (by decide +kernel)) g1_z hc_z
  replace hc_z := rn_bipush (w := 18) (am_cur_of (i := (59, 2, .bipush 18, (0, 0, 0), 0)) (by decide +kernel)) (by decide) hc_z
  replace hc_z := rn_cmp (am_cur_of (i := (61, 3, .if_icmp .lt 5, (35, 0, 0), 0)) (by decide +kernel)) hc_z
  rcases hc_z with ⟨b167_z, hc_z⟩ | ⟨b167_z, hc_z⟩
  · replace b167_z : kk.toInt < (18 : Int32).toInt := b167_z
    replace hc_z := rn_iconst (w := 0) (am_cur_of (i := (66, 1, .iconst 0, (0, 0, 0), 0)) (by decide +kernel)) (by decide) hc_z
    replace hc_z := rn_istore (am_cur_of (i := (67, 2, .istore 4, (0, 0, 0), 0)) (by decide +kernel)) hc_z
    obtain ⟨_, s168_z, s169_z, g4_z, hc_z⟩ := hc_z
    replace g0_z := s168_z 0 _ (by decide) rfl g0_z
    replace g1_z := s168_z 1 _ (by decide) rfl g1_z
    replace g2_z := s168_z 2 _ (by decide) rfl g2_z
    clear s168_z s169_z
    obtain ⟨m, em⟩ : ∃ m2_z : Nat, kk.toInt + 1 = m2_z := ⟨kk.toInt.toNat + 1, by omega⟩
    have sm := sk_m23 T9 L9 hf_z ht _ m 0 _ _ none _ _ G (fun n hn_z => (E n hn_z).1) (fun n hn_z => (E n hn_z).2) F3 F4 fL fT (fun z => by omega) (fun z hz_z => by cases hz_z) g0_z g1_z g2_z g4_z (by decide) (by rw [show (0 : Int32).toInt = 0 by decide]; omega) (by omega) hc_z
    rw [show m = kk.toInt.toNat + 1 by omega] at sm
    exact sm
  · replace b167_z : (18 : Int32).toInt ≤ kk.toInt := b167_z
    replace hc_z := rn_iconst (w := 0) (am_cur_of (i := (64, 1, .iconst 0, (0, 0, 0), 0)) (by decide +kernel)) (by decide) hc_z
    replace hc_z := rn_iret (am_cur_of (i := (65, 1, .ireturn, (0, 0, 0), 0)) (by decide +kernel)) hc_z
    obtain ⟨e170_z, e171_z⟩ := hc_z
    refine Or.inl ⟨skI_n L9 T9 hf_z ht _ _ _ none G ?_, e170_z⟩
    have c18_z : ∀ n, skC (fun _ => 0) n = 3 * n := by
      intro n
      induction n with
      | zero => rfl
      | succ n ih_z =>
        show skC (fun _ => 0) n + (3 - (0 : Int32).toInt).toNat = 3 * (n + 1)
        rw [ih_z, show (0 : Int32).toInt = 0 by decide]
        omega
    rw [c18_z]
    omega
def skR (k q : Int32) (z : skQ) : Int32 := if 0 ≤ k.toInt ∧ 0 ≤ q.toInt ∧ q.toInt ≤ 1 then (match z with
  | none => -2
  | some y => if q = 0 then y.1 else y.2) else -1
theorem skR_n {k q : Int32} {z : skQ} (h : ¬ (0 ≤ k.toInt ∧ 0 ≤ q.toInt ∧ q.toInt ≤ 1)) : skR k q z = -1 := if_neg h
theorem skR_0 {k q : Int32} (h : 0 ≤ k.toInt ∧ 0 ≤ q.toInt ∧ q.toInt ≤ 1) : skR k q none = -2 := if_pos h
theorem skR_1 {k q : Int32} {y : Int32 × Int32} (h : 0 ≤ k.toInt ∧ 0 ≤ q.toInt ∧ q.toInt ≤ 1) (hq_z : q = 0) : skR k q (some y) = y.1 := (if_pos h).trans (if_pos hq_z)
theorem skR_2 {k q : Int32} {y : Int32 × Int32} (h : 0 ≤ k.toInt ∧ 0 ≤ q.toInt ∧ q.toInt ≤ 1) (hq_z : ¬ q = 0) : skR k q (some y) = y.2 := (if_pos h).trans (if_neg hq_z)
theorem sk_62 {n : Nat} {h h' : am_H} {r : Option Value} {x : Int32}  (hc_z : rn n am_m62 0 (lv_args 0 [.int x, .int 0, .int 1]) [] h r h') : ((x.toInt < (0 : Int32).toInt) ∧ r = some (.int 0) ∧ h' = h) ∨ (((0 : Int32).toInt ≤ x.toInt) ∧ ((1 : Int32).toInt < x.toInt) ∧ r = some (.int 0) ∧ h' = h) ∨ (((0 : Int32).toInt ≤ x.toInt) ∧ (x.toInt ≤ (1 : Int32).toInt) ∧ r = some (.int 1) ∧ h' = h) := by
  have g0_z : am_get (lv_args 0 [.int x, .int 0, .int 1]) 0 = some (.int x) := rfl
  have g1_z : am_get (lv_args 0 [.int x, .int 0, .int 1]) 1 = some (.int 0) := rfl
  have g2_z : am_get (lv_args 0 [.int x, .int 0, .int 1]) 2 = some (.int 1) := rfl
  replace hc_z := rn_iload_n (am_cur_of (i := (0, 1, .iload_n 0, (0, 0, 0), 0)) (by decide +kernel)) g0_z hc_z
  replace hc_z := rn_iload_n (am_cur_of (i := (1, 1, .iload_n 1, (0, 0, 0), 0)) (by decide +kernel)) g1_z hc_z
  replace hc_z := rn_cmp (am_cur_of (i := (2, 3, .if_icmp .lt 12, (8, 0, 0), 0)) (by decide +kernel)) hc_z
  rcases hc_z with ⟨b172_z, hc_z⟩ | ⟨b172_z, hc_z⟩
  · replace b172_z : x.toInt < (0 : Int32).toInt := b172_z
    replace hc_z := rn_iconst (w := 0) (am_cur_of (i := (14, 1, .iconst 0, (0, 0, 0), 0)) (by decide +kernel)) (by decide) hc_z
    replace hc_z := rn_iret (am_cur_of (i := (15, 1, .ireturn, (0, 0, 0), 0)) (by decide +kernel)) hc_z
    obtain ⟨e173_z, e174_z⟩ := hc_z
    exact Or.inl ⟨b172_z, e173_z, e174_z⟩
  · replace b172_z : (0 : Int32).toInt ≤ x.toInt := b172_z
    replace hc_z := rn_iload_n (am_cur_of (i := (5, 1, .iload_n 0, (0, 0, 0), 0)) (by decide +kernel)) g0_z hc_z
    replace hc_z := rn_iload_n (am_cur_of (i := (6, 1, .iload_n 2, (0, 0, 0), 0)) (by decide +kernel)) g2_z hc_z
    replace hc_z := rn_cmp (am_cur_of (i := (7, 3, .if_icmp .gt 7, (8, 0, 0), 0)) (by decide +kernel)) hc_z
    rcases hc_z with ⟨b175_z, hc_z⟩ | ⟨b175_z, hc_z⟩
    · replace b175_z : (1 : Int32).toInt < x.toInt := b175_z
      replace hc_z := rn_iconst (w := 0) (am_cur_of (i := (14, 1, .iconst 0, (0, 0, 0), 0)) (by decide +kernel)) (by decide) hc_z
      replace hc_z := rn_iret (am_cur_of (i := (15, 1, .ireturn, (0, 0, 0), 0)) (by decide +kernel)) hc_z
      obtain ⟨e176_z, e177_z⟩ := hc_z
      exact Or.inr (Or.inl ⟨b172_z, b175_z, e176_z, e177_z⟩)
    · replace b175_z : x.toInt ≤ (1 : Int32).toInt := b175_z
      replace hc_z := rn_iconst (w := 1) (am_cur_of (i := (10, 1, .iconst 1, (0, 0, 0), 0)) (by decide +kernel)) (by decide) hc_z
      replace hc_z := rn_goto (am_cur_of (i := (11, 3, .goto 4, (9, 0, 0), 0)) (by decide +kernel)) hc_z
      replace hc_z := rn_iret (am_cur_of (i := (15, 1, .ireturn, (0, 0, 0), 0)) (by decide +kernel)) hc_z
      obtain ⟨e178_z, e179_z⟩ := hc_z
      exact Or.inr (Or.inr (⟨b172_z, b175_z, e178_z, e179_z⟩))
theorem sk_162 {n : Nat} {h h' : am_H} {r : Option Value} {x : Int32}  (hc_z : rn n am_m162 0 (lv_args 0 [.int x, .int 0, .int 1]) [] h r h') : ((x.toInt < (0 : Int32).toInt) ∧ r = some (.int 0) ∧ h' = h) ∨ (((0 : Int32).toInt ≤ x.toInt) ∧ ((1 : Int32).toInt < x.toInt) ∧ r = some (.int 0) ∧ h' = h) ∨ (((0 : Int32).toInt ≤ x.toInt) ∧ (x.toInt ≤ (1 : Int32).toInt) ∧ r = some (.int 1) ∧ h' = h) := by
  have g0_z : am_get (lv_args 0 [.int x, .int 0, .int 1]) 0 = some (.int x) := rfl
  have g1_z : am_get (lv_args 0 [.int x, .int 0, .int 1]) 1 = some (.int 0) := rfl
  have g2_z : am_get (lv_args 0 [.int x, .int 0, .int 1]) 2 = some (.int 1) := rfl
  replace hc_z := rn_iload_n (am_cur_of (i := (0, 1, .iload_n 0, (0, 0, 0), 0)) (by decide +kernel)) g0_z hc_z
  replace hc_z := rn_iload_n (am_cur_of (i := (1, 1, .iload_n 1, (0, 0, 0), 0)) (by decide +kernel)) g1_z hc_z
  replace hc_z := rn_cmp (am_cur_of (i := (2, 3, .if_icmp .lt 12, (8, 0, 0), 0)) (by decide +kernel)) hc_z
  rcases hc_z with ⟨b180_z, hc_z⟩ | ⟨b180_z, hc_z⟩
  · replace b180_z : x.toInt < (0 : Int32).toInt := b180_z
    replace hc_z := rn_iconst (w := 0) (am_cur_of (i := (14, 1, .iconst 0, (0, 0, 0), 0)) (by decide +kernel)) (by decide) hc_z
    replace hc_z := rn_iret (am_cur_of (i := (15, 1, .ireturn, (0, 0, 0), 0)) (by decide +kernel)) hc_z
    obtain ⟨e181_z, e182_z⟩ := hc_z
    exact Or.inl ⟨b180_z, e181_z, e182_z⟩
  · replace b180_z : (0 : Int32).toInt ≤ x.toInt := b180_z
    replace hc_z := rn_iload_n (am_cur_of (i := (5, 1, .iload_n 0, (0, 0, 0), 0)) (by decide +kernel)) g0_z hc_z
    replace hc_z := rn_iload_n (am_cur_of (i := (6, 1, .iload_n 2, (0, 0, 0), 0)) (by decide +kernel)) g2_z hc_z
    replace hc_z := rn_cmp (am_cur_of (i := (7, 3, .if_icmp .gt 7, (8, 0, 0), 0)) (by decide +kernel)) hc_z
    rcases hc_z with ⟨b183_z, hc_z⟩ | ⟨b183_z, hc_z⟩
    · replace b183_z : (1 : Int32).toInt < x.toInt := b183_z
      replace hc_z := rn_iconst (w := 0) (am_cur_of (i := (14, 1, .iconst 0, (0, 0, 0), 0)) (by decide +kernel)) (by decide) hc_z
      replace hc_z := rn_iret (am_cur_of (i := (15, 1, .ireturn, (0, 0, 0), 0)) (by decide +kernel)) hc_z
      obtain ⟨e184_z, e185_z⟩ := hc_z
      exact Or.inr (Or.inl ⟨b180_z, b183_z, e184_z, e185_z⟩)
    · replace b183_z : x.toInt ≤ (1 : Int32).toInt := b183_z
      replace hc_z := rn_iconst (w := 1) (am_cur_of (i := (10, 1, .iconst 1, (0, 0, 0), 0)) (by decide +kernel)) (by decide) hc_z
      replace hc_z := rn_goto (am_cur_of (i := (11, 3, .goto 4, (9, 0, 0), 0)) (by decide +kernel)) hc_z
      replace hc_z := rn_iret (am_cur_of (i := (15, 1, .ireturn, (0, 0, 0), 0)) (by decide +kernel)) hc_z
      obtain ⟨e186_z, e187_z⟩ := hc_z
      exact Or.inr (Or.inr (⟨b180_z, b183_z, e186_z, e187_z⟩))
theorem sk_202 {n : Nat} {h h' : am_H} {r : Option Value} {x : Int32} {y : Int32}  (hc_z : rn n am_m202 0 (lv_args 0 [.int x, .int y]) [] h r h') : ((¬ ((x >>> (y &&& 31)) &&& 1) = (1 : Int32) ∧ ¬ ((x >>> (y &&& 31)) &&& 1).toInt = (1 : Int32).toInt) ∧ r = some (.int 0) ∧ h' = h) ∨ ((((x >>> (y &&& 31)) &&& 1) = (1 : Int32) ∧ ((x >>> (y &&& 31)) &&& 1).toInt = (1 : Int32).toInt) ∧ r = some (.int 1) ∧ h' = h) := by
  have g0_z : am_get (lv_args 0 [.int x, .int y]) 0 = some (.int x) := rfl
  have g1_z : am_get (lv_args 0 [.int x, .int y]) 1 = some (.int y) := rfl
  replace hc_z := rn_iload_n (am_cur_of (i := (0, 1, .iload_n 0, (0, 0, 0), 0)) (by decide +kernel)) g0_z hc_z
  replace hc_z := rn_iload_n (am_cur_of (i := (1, 1, .iload_n 1, (0, 0, 0), 0)) (by decide +kernel)) g1_z hc_z
  replace hc_z := rn_ishr (w := x >>> (y &&& 31)) (am_cur_of (i := (2, 1, .ishr, (0, 0, 0), 0)) (by decide +kernel)) rfl hc_z
  replace hc_z := rn_iconst (w := 1) (am_cur_of (i := (3, 1, .iconst 1, (0, 0, 0), 0)) (by decide +kernel)) (by decide) hc_z
  replace hc_z := rn_iand (w := (x >>> (y &&& 31)) &&& 1) (am_cur_of (i := (4, 1, .iand, (0, 0, 0), 0)) (by decide +kernel)) rfl hc_z
  replace hc_z := rn_iconst (w := 1) (am_cur_of (i := (5, 1, .iconst 1, (0, 0, 0), 0)) (by decide +kernel)) (by decide) hc_z
  replace hc_z := rn_cmp (am_cur_of (i := (6, 3, .if_icmp .ne 7, (9, 0, 0), 0)) (by decide +kernel)) hc_z
  rcases hc_z with ⟨b188_z, hc_z⟩ | ⟨b188_z, hc_z⟩
  · replace b188_z : ¬ ((x >>> (y &&& 31)) &&& 1) = (1 : Int32) ∧ ¬ ((x >>> (y &&& 31)) &&& 1).toInt = (1 : Int32).toInt := b188_z
    replace hc_z := rn_iconst (w := 0) (am_cur_of (i := (13, 1, .iconst 0, (0, 0, 0), 0)) (by decide +kernel)) (by decide) hc_z
    replace hc_z := rn_iret (am_cur_of (i := (14, 1, .ireturn, (0, 0, 0), 0)) (by decide +kernel)) hc_z
    obtain ⟨e189_z, e190_z⟩ := hc_z
    exact Or.inl ⟨b188_z, e189_z, e190_z⟩
  · replace b188_z : ((x >>> (y &&& 31)) &&& 1) = (1 : Int32) ∧ ((x >>> (y &&& 31)) &&& 1).toInt = (1 : Int32).toInt := b188_z
    replace hc_z := rn_iconst (w := 1) (am_cur_of (i := (9, 1, .iconst 1, (0, 0, 0), 0)) (by decide +kernel)) (by decide) hc_z
    replace hc_z := rn_goto (am_cur_of (i := (10, 3, .goto 4, (10, 0, 0), 0)) (by decide +kernel)) hc_z
    replace hc_z := rn_iret (am_cur_of (i := (14, 1, .ireturn, (0, 0, 0), 0)) (by decide +kernel)) hc_z
    obtain ⟨e191_z, e192_z⟩ := hc_z
    exact Or.inr (⟨b188_z, e191_z, e192_z⟩)
theorem sk_115_2 {n : Nat} {r : Option Value} {h h' : am_H} {kk q x : Int32} {W fi tm : Nat → Int32} {L T : Nat} (D : h 0 2 = .ref 2) (T9 : T ≤ 99) (L9 : L ≤ 99) (L6 : L ≤ 6) (hW : ∀ i, i < L → 0 ≤ (W i).toInt ∧ (W i).toInt ≤ 99) (hf_z : ∀ t, t < T → 1 ≤ (fi t).toInt ∧ (fi t).toInt ≤ 100) (ht : ∀ t, t < T → 1 ≤ (tm t).toInt ∧ (tm t).toInt ≤ 99) (ex : rg_v h 48 4 = x) (EW : ∀ n : Nat, n < L → rg_v h 6 n = W n) (E3 : ∀ t : Nat, t < T → rg_v h 9 t = fi t) (E4 : ∀ t : Nat, t < T → rg_v h 10 t = tm t) (eL : (rg_v h 2 9).toInt = L) (eT : (rg_v h 2 12).toInt = T) (hc_z : rn n am_m115 0 (lv_args 0 [.ref 0, .int kk, .int q]) [] h r h') : r = some (.int (skR kk q (skI fi tm L T (kk.toInt.toNat + 1) (sk0_z x W) (fun _ => 0) none))) := by
  have z0_z : (0 : Int32).toInt = 0 := by decide
  have z1_z : (1 : Int32).toInt = 1 := by decide
  have g0_z : am_get (lv_args 0 [.ref 0, .int kk, .int q]) 0 = some (.ref 0) := rfl
  have g1_z : am_get (lv_args 0 [.ref 0, .int kk, .int q]) 1 = some (.int kk) := rfl
  have g2_z : am_get (lv_args 0 [.ref 0, .int kk, .int q]) 2 = some (.int q) := rfl
  replace hc_z := rn_iload_n (am_cur_of (i := (0, 1, .iload_n 1, (0, 0, 0), 0)) (by decide +kernel)) g1_z hc_z
  replace hc_z := rn_if (am_cur_of (i := (1, 3, .ifCond .lt 12, (7, 0, 0), 0)) (by decide +kernel)) hc_z
  rcases hc_z with ⟨b193_z, hc_z⟩ | ⟨b193_z, hc_z⟩
  · replace b193_z : kk.toInt < (0 : Int32).toInt := b193_z
    replace hc_z := rn_iconst (w := (-1)) (am_cur_of (i := (13, 1, .iconst (-1), (0, 0, 0), 0)) (by decide +kernel)) (by decide) hc_z
    replace hc_z := rn_iret (am_cur_of (i := (14, 1, .ireturn, (0, 0, 0), 0)) (by decide +kernel)) hc_z
    obtain ⟨e194_z, e195_z⟩ := hc_z
    exact e194_z.trans (congrArg (fun q => some (Value.int q)) (skR_n (by omega)).symm)
  · replace b193_z : (0 : Int32).toInt ≤ kk.toInt := b193_z
    replace hc_z := rn_iload_n (am_cur_of (i := (4, 1, .iload_n 2, (0, 0, 0), 0)) (by decide +kernel)) g2_z hc_z
    replace hc_z := rn_iconst (w := 0) (am_cur_of (i := (5, 1, .iconst 0, (0, 0, 0), 0)) (by decide +kernel)) (by decide) hc_z
    replace hc_z := rn_iconst (w := 1) (am_cur_of (i := (6, 1, .iconst 1, (0, 0, 0), 0)) (by decide +kernel)) (by decide) hc_z
    replace hc_z := rn_callS (M' := am_m62) (ar := [.int 1, .int 0, .int q]) (rest := []) (L := lv_args 0 [.int q, .int 0, .int 1]) (am_cur_of (i := (7, 3, .invokestatic 172, (62, 908, 3), 0)) (by decide +kernel)) rfl rfl rfl rfl hc_z
    obtain ⟨r196_z, h197_z, q198_z, hc_z⟩ := hc_z
    rcases sk_62 q198_z with ⟨b199_z, rfl, y200_z⟩ | ⟨b201_z, b202_z, rfl, y203_z⟩ | ⟨b204_z, b205_z, rfl, y206_z⟩
    · replace y200_z := y200_z.symm
      subst y200_z
      replace b199_z : q.toInt < (0 : Int32).toInt := b199_z
      replace hc_z : rn _ _ _ _ [.int 0] _ _ _ := hc_z
      replace hc_z := rn_ifF (am_cur_of (i := (10, 3, .ifCond .ne 5, (9, 0, 0), 0)) (by decide +kernel)) (by decide) hc_z
      replace hc_z := rn_iconst (w := (-1)) (am_cur_of (i := (13, 1, .iconst (-1), (0, 0, 0), 0)) (by decide +kernel)) (by decide) hc_z
      replace hc_z := rn_iret (am_cur_of (i := (14, 1, .ireturn, (0, 0, 0), 0)) (by decide +kernel)) hc_z
      obtain ⟨e207_z, e208_z⟩ := hc_z
      exact e207_z.trans (congrArg (fun q => some (Value.int q)) (skR_n (by omega)).symm)
    · replace y203_z := y203_z.symm
      subst y203_z
      replace b201_z : (0 : Int32).toInt ≤ q.toInt := b201_z
      replace b202_z : (1 : Int32).toInt < q.toInt := b202_z
      replace hc_z : rn _ _ _ _ [.int 0] _ _ _ := hc_z
      replace hc_z := rn_ifF (am_cur_of (i := (10, 3, .ifCond .ne 5, (9, 0, 0), 0)) (by decide +kernel)) (by decide) hc_z
      replace hc_z := rn_iconst (w := (-1)) (am_cur_of (i := (13, 1, .iconst (-1), (0, 0, 0), 0)) (by decide +kernel)) (by decide) hc_z
      replace hc_z := rn_iret (am_cur_of (i := (14, 1, .ireturn, (0, 0, 0), 0)) (by decide +kernel)) hc_z
      obtain ⟨e209_z, e210_z⟩ := hc_z
      exact e209_z.trans (congrArg (fun q => some (Value.int q)) (skR_n (by omega)).symm)
    · replace y206_z := y206_z.symm
      subst y206_z
      replace b204_z : (0 : Int32).toInt ≤ q.toInt := b204_z
      replace b205_z : q.toInt ≤ (1 : Int32).toInt := b205_z
      replace hc_z : rn _ _ _ _ [.int 1] _ _ _ := hc_z
      replace hc_z := rn_ifT (am_cur_of (i := (10, 3, .ifCond .ne 5, (9, 0, 0), 0)) (by decide +kernel)) (by decide) hc_z
      replace hc_z := rn_aload_n (am_cur_of (i := (15, 1, .aload_n 0, (0, 0, 0), 0)) (by decide +kernel)) g0_z hc_z
      replace hc_z := rn_getR (x := 161) (am_cur_of (i := (16, 3, .getfield 92, (0, 15, 676), 0)) (by decide +kernel)) (by decide +kernel) hc_z
      replace hc_z := rn_iload_n (am_cur_of (i := (19, 1, .iload_n 1, (0, 0, 0), 0)) (by decide +kernel)) g1_z hc_z
      replace hc_z := rn_aload_n (am_cur_of (i := (20, 1, .aload_n 0, (0, 0, 0), 0)) (by decide +kernel)) g0_z hc_z
      replace hc_z := rn_getM (x := 2) (am_cur_of (i := (21, 3, .getfield 18, (0, 2, 663), 0)) (by decide +kernel)) D hc_z
      replace hc_z := rn_aload_n (am_cur_of (i := (24, 1, .aload_n 0, (0, 0, 0), 0)) (by decide +kernel)) g0_z hc_z
      replace hc_z := rn_getR (x := 48) (am_cur_of (i := (25, 3, .getfield 37, (0, 5, 666), 0)) (by decide +kernel)) (by decide +kernel) hc_z
      replace hc_z := rn_callV (M' := am_m116) (o := 161) (ar := [.ref 48, .ref 2, .int kk]) (rest := []) (L := lv_args 0 [.ref 161, .int kk, .ref 2, .ref 48]) (am_cur_of (i := (28, 3, .invokevirtual 303, (116, 1147, 3), 0)) (by decide +kernel)) rfl rfl rfl rfl hc_z
      obtain ⟨r211_z, h212_z, q213_z, hc_z⟩ := hc_z
      rcases sk_116_2 (by omega) T9 L9 L6 hW hf_z ht ex EW E3 E4 eL eT q213_z with ⟨n1_z, rfl⟩ | ⟨z, n1_z, rfl, ea, eb⟩
      · replace hc_z : rn _ _ _ _ [.int 0] _ _ _ := hc_z
        replace hc_z := rn_ifF (am_cur_of (i := (31, 3, .ifCond .ne 6, (20, 0, 0), 0)) (by decide +kernel)) (by decide) hc_z
        replace hc_z := rn_bipush (w := (-2)) (am_cur_of (i := (34, 2, .bipush (-2), (0, 0, 0), 0)) (by decide +kernel)) (by decide) hc_z
        replace hc_z := rn_iret (am_cur_of (i := (36, 1, .ireturn, (0, 0, 0), 0)) (by decide +kernel)) hc_z
        obtain ⟨e214_z, e215_z⟩ := hc_z
        rw [n1_z]
        exact e214_z.trans (congrArg (fun q => some (Value.int q)) (skR_0 (by omega)).symm)
      · replace hc_z : rn _ _ _ _ [.int 1] _ _ _ := hc_z
        replace hc_z := rn_ifT (am_cur_of (i := (31, 3, .ifCond .ne 6, (20, 0, 0), 0)) (by decide +kernel)) (by decide) hc_z
        replace hc_z := rn_iload_n (am_cur_of (i := (37, 1, .iload_n 2, (0, 0, 0), 0)) (by decide +kernel)) g2_z hc_z
        replace hc_z := rn_if (am_cur_of (i := (38, 3, .ifCond .ne 13, (26, 0, 0), 0)) (by decide +kernel)) hc_z
        rcases hc_z with ⟨b216_z, hc_z⟩ | ⟨b216_z, hc_z⟩
        · replace b216_z : ¬ q = (0 : Int32) ∧ ¬ q.toInt = (0 : Int32).toInt := b216_z
          replace hc_z := rn_aload_n (am_cur_of (i := (51, 1, .aload_n 0, (0, 0, 0), 0)) (by decide +kernel)) g0_z hc_z
          replace hc_z := rn_getR (x := 161) (am_cur_of (i := (52, 3, .getfield 92, (0, 15, 676), 0)) (by decide +kernel)) (by decide +kernel) hc_z
          replace hc_z := rn_getI (v := z.2) (am_cur_of (i := (55, 3, .getfield 309, (11, 1, 645), 0)) (by decide +kernel)) (by decide +kernel) eb hc_z
          replace hc_z := rn_iret (am_cur_of (i := (58, 1, .ireturn, (0, 0, 0), 0)) (by decide +kernel)) hc_z
          obtain ⟨e217_z, e218_z⟩ := hc_z
          rw [n1_z]
          exact e217_z.trans (congrArg (fun q => some (Value.int q)) (skR_2 (by omega) b216_z.1).symm)
        · replace b216_z : q = (0 : Int32) ∧ q.toInt = (0 : Int32).toInt := b216_z
          replace hc_z := rn_aload_n (am_cur_of (i := (41, 1, .aload_n 0, (0, 0, 0), 0)) (by decide +kernel)) g0_z hc_z
          replace hc_z := rn_getR (x := 161) (am_cur_of (i := (42, 3, .getfield 92, (0, 15, 676), 0)) (by decide +kernel)) (by decide +kernel) hc_z
          replace hc_z := rn_getI (v := z.1) (am_cur_of (i := (45, 3, .getfield 306, (11, 0, 643), 0)) (by decide +kernel)) (by decide +kernel) ea hc_z
          replace hc_z := rn_goto (am_cur_of (i := (48, 3, .goto 10, (29, 0, 0), 0)) (by decide +kernel)) hc_z
          replace hc_z := rn_iret (am_cur_of (i := (58, 1, .ireturn, (0, 0, 0), 0)) (by decide +kernel)) hc_z
          obtain ⟨e219_z, e220_z⟩ := hc_z
          rw [n1_z]
          exact e219_z.trans (congrArg (fun q => some (Value.int q)) (skR_1 (by omega) b216_z.1).symm)
theorem sk_115_23 {n : Nat} {r : Option Value} {h h' : am_H} {kk q x : Int32} {W fi tm : Nat → Int32} {L T : Nat} (D : h 0 2 = .ref 23) (T9 : T ≤ 99) (L9 : L ≤ 99) (L6 : L ≤ 6) (hW : ∀ i, i < L → 0 ≤ (W i).toInt ∧ (W i).toInt ≤ 99) (hf_z : ∀ t, t < T → 1 ≤ (fi t).toInt ∧ (fi t).toInt ≤ 100) (ht : ∀ t, t < T → 1 ≤ (tm t).toInt ∧ (tm t).toInt ≤ 99) (ex : rg_v h 48 4 = x) (EW : ∀ n : Nat, n < L → rg_v h 27 n = W n) (E3 : ∀ t : Nat, t < T → rg_v h 30 t = fi t) (E4 : ∀ t : Nat, t < T → rg_v h 31 t = tm t) (eL : (rg_v h 23 9).toInt = L) (eT : (rg_v h 23 12).toInt = T) (hc_z : rn n am_m115 0 (lv_args 0 [.ref 0, .int kk, .int q]) [] h r h') : r = some (.int (skR kk q (skI fi tm L T (kk.toInt.toNat + 1) (sk0_z x W) (fun _ => 0) none))) := by
  have z0_z : (0 : Int32).toInt = 0 := by decide
  have z1_z : (1 : Int32).toInt = 1 := by decide
  have g0_z : am_get (lv_args 0 [.ref 0, .int kk, .int q]) 0 = some (.ref 0) := rfl
  have g1_z : am_get (lv_args 0 [.ref 0, .int kk, .int q]) 1 = some (.int kk) := rfl
  have g2_z : am_get (lv_args 0 [.ref 0, .int kk, .int q]) 2 = some (.int q) := rfl
  replace hc_z := rn_iload_n (am_cur_of (i := (0, 1, .iload_n 1, (0, 0, 0), 0)) (by decide +kernel)) g1_z hc_z
  replace hc_z := rn_if (am_cur_of (i := (1, 3, .ifCond .lt 12, (7, 0, 0), 0)) (by decide +kernel)) hc_z
  rcases hc_z with ⟨b221_z, hc_z⟩ | ⟨b221_z, hc_z⟩
  · replace b221_z : kk.toInt < (0 : Int32).toInt := b221_z
    replace hc_z := rn_iconst (w := (-1)) (am_cur_of (i := (13, 1, .iconst (-1), (0, 0, 0), 0)) (by decide +kernel)) (by decide) hc_z
    replace hc_z := rn_iret (am_cur_of (i := (14, 1, .ireturn, (0, 0, 0), 0)) (by decide +kernel)) hc_z
    obtain ⟨e222_z, e223_z⟩ := hc_z
    exact e222_z.trans (congrArg (fun q => some (Value.int q)) (skR_n (by omega)).symm)
  · replace b221_z : (0 : Int32).toInt ≤ kk.toInt := b221_z
    replace hc_z := rn_iload_n (am_cur_of (i := (4, 1, .iload_n 2, (0, 0, 0), 0)) (by decide +kernel)) g2_z hc_z
    replace hc_z := rn_iconst (w := 0) (am_cur_of (i := (5, 1, .iconst 0, (0, 0, 0), 0)) (by decide +kernel)) (by decide) hc_z
    replace hc_z := rn_iconst (w := 1) (am_cur_of (i := (6, 1, .iconst 1, (0, 0, 0), 0)) (by decide +kernel)) (by decide) hc_z
    replace hc_z := rn_callS (M' := am_m62) (ar := [.int 1, .int 0, .int q]) (rest := []) (L := lv_args 0 [.int q, .int 0, .int 1]) (am_cur_of (i := (7, 3, .invokestatic 172, (62, 908, 3), 0)) (by decide +kernel)) rfl rfl rfl rfl hc_z
    obtain ⟨r224_z, h225_z, q226_z, hc_z⟩ := hc_z
    rcases sk_62 q226_z with ⟨b227_z, rfl, y228_z⟩ | ⟨b229_z, b230_z, rfl, y231_z⟩ | ⟨b232_z, b233_z, rfl, y234_z⟩
    · replace y228_z := y228_z.symm
      subst y228_z
      replace b227_z : q.toInt < (0 : Int32).toInt := b227_z
      replace hc_z : rn _ _ _ _ [.int 0] _ _ _ := hc_z
      replace hc_z := rn_ifF (am_cur_of (i := (10, 3, .ifCond .ne 5, (9, 0, 0), 0)) (by decide +kernel)) (by decide) hc_z
      replace hc_z := rn_iconst (w := (-1)) (am_cur_of (i := (13, 1, .iconst (-1), (0, 0, 0), 0)) (by decide +kernel)) (by decide) hc_z
      replace hc_z := rn_iret (am_cur_of (i := (14, 1, .ireturn, (0, 0, 0), 0)) (by decide +kernel)) hc_z
      obtain ⟨e235_z, e236_z⟩ := hc_z
      exact e235_z.trans (congrArg (fun q => some (Value.int q)) (skR_n (by omega)).symm)
    · replace y231_z := y231_z.symm
      subst y231_z
      replace b229_z : (0 : Int32).toInt ≤ q.toInt := b229_z
      replace b230_z : (1 : Int32).toInt < q.toInt := b230_z
      replace hc_z : rn _ _ _ _ [.int 0] _ _ _ := hc_z
      replace hc_z := rn_ifF (am_cur_of (i := (10, 3, .ifCond .ne 5, (9, 0, 0), 0)) (by decide +kernel)) (by decide) hc_z
      replace hc_z := rn_iconst (w := (-1)) (am_cur_of (i := (13, 1, .iconst (-1), (0, 0, 0), 0)) (by decide +kernel)) (by decide) hc_z
      replace hc_z := rn_iret (am_cur_of (i := (14, 1, .ireturn, (0, 0, 0), 0)) (by decide +kernel)) hc_z
      obtain ⟨e237_z, e238_z⟩ := hc_z
      exact e237_z.trans (congrArg (fun q => some (Value.int q)) (skR_n (by omega)).symm)
    · replace y234_z := y234_z.symm
      subst y234_z
      replace b232_z : (0 : Int32).toInt ≤ q.toInt := b232_z
      replace b233_z : q.toInt ≤ (1 : Int32).toInt := b233_z
      replace hc_z : rn _ _ _ _ [.int 1] _ _ _ := hc_z
      replace hc_z := rn_ifT (am_cur_of (i := (10, 3, .ifCond .ne 5, (9, 0, 0), 0)) (by decide +kernel)) (by decide) hc_z
      replace hc_z := rn_aload_n (am_cur_of (i := (15, 1, .aload_n 0, (0, 0, 0), 0)) (by decide +kernel)) g0_z hc_z
      replace hc_z := rn_getR (x := 161) (am_cur_of (i := (16, 3, .getfield 92, (0, 15, 676), 0)) (by decide +kernel)) (by decide +kernel) hc_z
      replace hc_z := rn_iload_n (am_cur_of (i := (19, 1, .iload_n 1, (0, 0, 0), 0)) (by decide +kernel)) g1_z hc_z
      replace hc_z := rn_aload_n (am_cur_of (i := (20, 1, .aload_n 0, (0, 0, 0), 0)) (by decide +kernel)) g0_z hc_z
      replace hc_z := rn_getM (x := 23) (am_cur_of (i := (21, 3, .getfield 18, (0, 2, 663), 0)) (by decide +kernel)) D hc_z
      replace hc_z := rn_aload_n (am_cur_of (i := (24, 1, .aload_n 0, (0, 0, 0), 0)) (by decide +kernel)) g0_z hc_z
      replace hc_z := rn_getR (x := 48) (am_cur_of (i := (25, 3, .getfield 37, (0, 5, 666), 0)) (by decide +kernel)) (by decide +kernel) hc_z
      replace hc_z := rn_callV (M' := am_m116) (o := 161) (ar := [.ref 48, .ref 23, .int kk]) (rest := []) (L := lv_args 0 [.ref 161, .int kk, .ref 23, .ref 48]) (am_cur_of (i := (28, 3, .invokevirtual 303, (116, 1147, 3), 0)) (by decide +kernel)) rfl rfl rfl rfl hc_z
      obtain ⟨r239_z, h240_z, q241_z, hc_z⟩ := hc_z
      rcases sk_116_23 (by omega) T9 L9 L6 hW hf_z ht ex EW E3 E4 eL eT q241_z with ⟨n1_z, rfl⟩ | ⟨z, n1_z, rfl, ea, eb⟩
      · replace hc_z : rn _ _ _ _ [.int 0] _ _ _ := hc_z
        replace hc_z := rn_ifF (am_cur_of (i := (31, 3, .ifCond .ne 6, (20, 0, 0), 0)) (by decide +kernel)) (by decide) hc_z
        replace hc_z := rn_bipush (w := (-2)) (am_cur_of (i := (34, 2, .bipush (-2), (0, 0, 0), 0)) (by decide +kernel)) (by decide) hc_z
        replace hc_z := rn_iret (am_cur_of (i := (36, 1, .ireturn, (0, 0, 0), 0)) (by decide +kernel)) hc_z
        obtain ⟨e242_z, e243_z⟩ := hc_z
        rw [n1_z]
        exact e242_z.trans (congrArg (fun q => some (Value.int q)) (skR_0 (by omega)).symm)
      · replace hc_z : rn _ _ _ _ [.int 1] _ _ _ := hc_z
        replace hc_z := rn_ifT (am_cur_of (i := (31, 3, .ifCond .ne 6, (20, 0, 0), 0)) (by decide +kernel)) (by decide) hc_z
        replace hc_z := rn_iload_n (am_cur_of (i := (37, 1, .iload_n 2, (0, 0, 0), 0)) (by decide +kernel)) g2_z hc_z
        replace hc_z := rn_if (am_cur_of (i := (38, 3, .ifCond .ne 13, (26, 0, 0), 0)) (by decide +kernel)) hc_z
        rcases hc_z with ⟨b244_z, hc_z⟩ | ⟨b244_z, hc_z⟩
        · replace b244_z : ¬ q = (0 : Int32) ∧ ¬ q.toInt = (0 : Int32).toInt := b244_z
          replace hc_z := rn_aload_n (am_cur_of (i := (51, 1, .aload_n 0, (0, 0, 0), 0)) (by decide +kernel)) g0_z hc_z
          replace hc_z := rn_getR (x := 161) (am_cur_of (i := (52, 3, .getfield 92, (0, 15, 676), 0)) (by decide +kernel)) (by decide +kernel) hc_z
          replace hc_z := rn_getI (v := z.2) (am_cur_of (i := (55, 3, .getfield 309, (11, 1, 645), 0)) (by decide +kernel)) (by decide +kernel) eb hc_z
          replace hc_z := rn_iret (am_cur_of (i := (58, 1, .ireturn, (0, 0, 0), 0)) (by decide +kernel)) hc_z
          obtain ⟨e245_z, e246_z⟩ := hc_z
          rw [n1_z]
          exact e245_z.trans (congrArg (fun q => some (Value.int q)) (skR_2 (by omega) b244_z.1).symm)
        · replace b244_z : q = (0 : Int32) ∧ q.toInt = (0 : Int32).toInt := b244_z
          replace hc_z := rn_aload_n (am_cur_of (i := (41, 1, .aload_n 0, (0, 0, 0), 0)) (by decide +kernel)) g0_z hc_z
          replace hc_z := rn_getR (x := 161) (am_cur_of (i := (42, 3, .getfield 92, (0, 15, 676), 0)) (by decide +kernel)) (by decide +kernel) hc_z
          replace hc_z := rn_getI (v := z.1) (am_cur_of (i := (45, 3, .getfield 306, (11, 0, 643), 0)) (by decide +kernel)) (by decide +kernel) ea hc_z
          replace hc_z := rn_goto (am_cur_of (i := (48, 3, .goto 10, (29, 0, 0), 0)) (by decide +kernel)) hc_z
          replace hc_z := rn_iret (am_cur_of (i := (58, 1, .ireturn, (0, 0, 0), 0)) (by decide +kernel)) hc_z
          obtain ⟨e247_z, e248_z⟩ := hc_z
          rw [n1_z]
          exact e247_z.trans (congrArg (fun q => some (Value.int q)) (skR_1 (by omega) b244_z.1).symm)
theorem sj_t {r : Option Value} {g' : am_H} {kk qq i l : Int32} {lf : Nat → Int64} {lk fi tm : Nat → Int32} {L T : Nat} (hl_z : l.toNatClampNeg < L) (l0_z : 0 ≤ l.toInt) (h3_z : (lk l.toNatClampNeg).toInt < 3) (T9 : T ≤ 99) (L9 : L ≤ 99) : ∀ (f k : Nat) (t : Int32) (u w : Int64) (q : skQ) (ls : am_L) (g : am_H), (∀ i : Nat, i < L → rg_l g 196 i = lf i) → (∀ i : Nat, i < L → rg_v g 197 i = lk i) → (∀ t : Nat, t < T → rg_v g 176 t = fi t) → (∀ t : Nat, t < T → rg_v g 177 t = tm t) → (rg_v g 164 14).toInt = L → (rg_v g 164 15).toInt = T → am_get ls 0 = some (.ref 164) → am_get ls 1 = some (.int kk) → am_get ls 2 = some (.int qq) → am_get ls 3 = some (.int (skA q (-2))) → am_get ls 4 = some (.int (skZ q (-2))) → am_get ls 5 = some (.int i) → am_get ls 6 = some (.long u) → am_get ls 8 = some (.long w) → am_get ls 10 = some (.int l) → am_get ls 11 = some (.int t) → 0 ≤ t.toInt → t.toInt + k = T → rn f am_m233 68 ls [] g r g' → ∃ l2_z, am_get l2_z 0 = some (.ref 164) ∧ am_get l2_z 1 = some (.int kk) ∧ am_get l2_z 2 = some (.int qq) ∧ am_get l2_z 3 = some (.int (skA (skT fi tm (lf l.toNatClampNeg) l k t u w q).2.2 (-2))) ∧ am_get l2_z 4 = some (.int (skZ (skT fi tm (lf l.toNatClampNeg) l k t u w q).2.2 (-2))) ∧ am_get l2_z 5 = some (.int i) ∧ am_get l2_z 6 = some (.long (skT fi tm (lf l.toNatClampNeg) l k t u w q).1) ∧ am_get l2_z 8 = some (.long (skT fi tm (lf l.toNatClampNeg) l k t u w q).2.1) ∧ am_get l2_z 10 = some (.int l) ∧ rn f am_m233 116 l2_z [] g r g' := by
  intro f
  induction f with
  | zero => intro k t u w q ls g E1 E2 E3 E4 eL eT g0_z g1_z g2_z g3_z g4_z g5_z g6_z g8_z g10_z g11_z t0_z tk hm_z; exact absurd hm_z rn_0
  | succ f ih_z =>
    intro k t u w q ls g E1 E2 E3 E4 eL eT g0_z g1_z g2_z g3_z g4_z g5_z g6_z g8_z g10_z g11_z t0_z tk hm_z
    have ct := rt_cl t0_z
    have cl := rt_cl l0_z
    have z0_z : (0 : Int32).toInt = 0 := by decide
    have z3_z : (3 : Int32).toInt = 3 := by decide
    replace hm_z := rn_iload (am_cur_of (i := (119, 2, .iload 11, (0, 0, 0), 0)) (by decide +kernel)) g11_z hm_z
    replace hm_z := rn_aload_n (am_cur_of (i := (121, 1, .aload_n 0, (0, 0, 0), 0)) (by decide +kernel)) g0_z hm_z
    replace hm_z := rn_getI (v := rg_v g 164 15) (am_cur_of (i := (122, 3, .getfield 228, (12, 15, 1399), 0)) (by decide +kernel)) (by decide +kernel) rfl hm_z
    replace hm_z := rn_cmp (am_cur_of (i := (125, 3, .if_icmp .ge 82, (116, 0, 0), 0)) (by decide +kernel)) hm_z
    rcases hm_z with ⟨b249_z, hm_z⟩ | ⟨b249_z, hm_z⟩
    · replace b249_z : (rg_v g 164 15).toInt ≤ t.toInt := b249_z
      obtain rfl : k = 0 := by omega
      exact ⟨_, g0_z, g1_z, g2_z, g3_z, g4_z, g5_z, g6_z, g8_z, g10_z, hm_z⟩
    · replace b249_z : t.toInt < (rg_v g 164 15).toInt := b249_z
      obtain ⟨k, rfl⟩ : ∃ k2_z, k = k2_z + 1 := ⟨k - 1, by omega⟩
      have c1_z := rt_c1 t0_z (by omega)
      replace hm_z := rn_aload_n (am_cur_of (i := (128, 1, .aload_n 0, (0, 0, 0), 0)) (by decide +kernel)) g0_z hm_z
      replace hm_z := rn_getR (x := 197) (am_cur_of (i := (129, 3, .getfield 115, (12, 72, 1456), 0)) (by decide +kernel)) (by decide +kernel) hm_z
      replace hm_z := rn_iload (am_cur_of (i := (132, 2, .iload 10, (0, 0, 0), 0)) (by decide +kernel)) g10_z hm_z
      replace hm_z := rn_iaload (N := 6) (q := l.toNatClampNeg) (v := lk l.toNatClampNeg) (am_cur_of (i := (134, 1, .iaload, (0, 0, 0), 0)) (by decide +kernel)) (by decide +kernel) rfl (E2 l.toNatClampNeg (by omega)) hm_z
      obtain ⟨p250_z, hm_z⟩ := hm_z
      replace hm_z := rn_iconst (w := 3) (am_cur_of (i := (135, 1, .iconst 3, (0, 0, 0), 0)) (by decide +kernel)) (by decide) hm_z
      replace hm_z := rn_cmp (am_cur_of (i := (136, 3, .if_icmp .ge 71, (116, 0, 0), 0)) (by decide +kernel)) hm_z
      rcases hm_z with ⟨b251_z, hm_z⟩ | ⟨b251_z, hm_z⟩
      · replace b251_z : (3 : Int32).toInt ≤ (lk l.toNatClampNeg).toInt := b251_z
        omega
      · replace b251_z : (lk l.toNatClampNeg).toInt < (3 : Int32).toInt := b251_z
        replace hm_z := rn_aload_n (am_cur_of (i := (139, 1, .aload_n 0, (0, 0, 0), 0)) (by decide +kernel)) g0_z hm_z
        replace hm_z := rn_getR (x := 196) (am_cur_of (i := (140, 3, .getfield 112, (12, 71, 1455), 0)) (by decide +kernel)) (by decide +kernel) hm_z
        replace hm_z := rn_iload (am_cur_of (i := (143, 2, .iload 10, (0, 0, 0), 0)) (by decide +kernel)) g10_z hm_z
        replace hm_z := rn_laload (N := 6) (q := l.toNatClampNeg) (v := lf l.toNatClampNeg) (am_cur_of (i := (145, 1, .laload, (0, 0, 0), 0)) (by decide +kernel)) (by decide +kernel) rfl (E1 l.toNatClampNeg (by omega)) hm_z
        obtain ⟨p252_z, hm_z⟩ := hm_z
        replace hm_z := rn_aload_n (am_cur_of (i := (146, 1, .aload_n 0, (0, 0, 0), 0)) (by decide +kernel)) g0_z hm_z
        replace hm_z := rn_getR (x := 176) (am_cur_of (i := (147, 3, .getfield 48, (12, 31, 1415), 0)) (by decide +kernel)) (by decide +kernel) hm_z
        replace hm_z := rn_iload (am_cur_of (i := (150, 2, .iload 11, (0, 0, 0), 0)) (by decide +kernel)) g11_z hm_z
        replace hm_z := rn_iaload (N := 6) (q := t.toNatClampNeg) (v := fi t.toNatClampNeg) (am_cur_of (i := (152, 1, .iaload, (0, 0, 0), 0)) (by decide +kernel)) (by decide +kernel) rfl (E3 t.toNatClampNeg (by omega)) hm_z
        obtain ⟨p253_z, hm_z⟩ := hm_z
        replace hm_z := rn_i2l (w := (fi t.toNatClampNeg).toInt64) (am_cur_of (i := (153, 1, .i2l, (0, 0, 0), 0)) (by decide +kernel)) rfl hm_z
        replace hm_z := rn_lmul (w := (lf l.toNatClampNeg) * ((fi t.toNatClampNeg).toInt64)) (am_cur_of (i := (154, 1, .lmul, (0, 0, 0), 0)) (by decide +kernel)) rfl hm_z
        replace hm_z := rn_lstore (am_cur_of (i := (155, 2, .lstore 12, (0, 0, 0), 0)) (by decide +kernel)) hm_z
        obtain ⟨_, s254_z, s255_z, g12_z, hm_z⟩ := hm_z
        replace g0_z := s254_z 0 _ (by decide) (by decide) rfl g0_z
        replace g1_z := s254_z 1 _ (by decide) (by decide) rfl g1_z
        replace g2_z := s254_z 2 _ (by decide) (by decide) rfl g2_z
        replace g3_z := s254_z 3 _ (by decide) (by decide) rfl g3_z
        replace g4_z := s254_z 4 _ (by decide) (by decide) rfl g4_z
        replace g5_z := s254_z 5 _ (by decide) (by decide) rfl g5_z
        replace g6_z := s255_z 6 _ (by decide) (by decide) (by decide) g6_z
        replace g8_z := s255_z 8 _ (by decide) (by decide) (by decide) g8_z
        replace g10_z := s254_z 10 _ (by decide) (by decide) rfl g10_z
        replace g11_z := s254_z 11 _ (by decide) (by decide) rfl g11_z
        clear s254_z s255_z
        replace hm_z := rn_lload (am_cur_of (i := (157, 2, .lload 12, (0, 0, 0), 0)) (by decide +kernel)) g12_z hm_z
        replace hm_z := rn_lload (am_cur_of (i := (159, 2, .lload 8, (0, 0, 0), 0)) (by decide +kernel)) g8_z hm_z
        replace hm_z := rn_lmul (w := ((lf l.toNatClampNeg) * ((fi t.toNatClampNeg).toInt64)) * w) (am_cur_of (i := (161, 1, .lmul, (0, 0, 0), 0)) (by decide +kernel)) rfl hm_z
        replace hm_z := rn_lload (am_cur_of (i := (162, 2, .lload 6, (0, 0, 0), 0)) (by decide +kernel)) g6_z hm_z
        replace hm_z := rn_aload_n (am_cur_of (i := (164, 1, .aload_n 0, (0, 0, 0), 0)) (by decide +kernel)) g0_z hm_z
        replace hm_z := rn_getR (x := 177) (am_cur_of (i := (165, 3, .getfield 51, (12, 32, 1416), 0)) (by decide +kernel)) (by decide +kernel) hm_z
        replace hm_z := rn_iload (am_cur_of (i := (168, 2, .iload 11, (0, 0, 0), 0)) (by decide +kernel)) g11_z hm_z
        replace hm_z := rn_iaload (N := 6) (q := t.toNatClampNeg) (v := tm t.toNatClampNeg) (am_cur_of (i := (170, 1, .iaload, (0, 0, 0), 0)) (by decide +kernel)) (by decide +kernel) rfl (E4 t.toNatClampNeg (by omega)) hm_z
        obtain ⟨p256_z, hm_z⟩ := hm_z
        replace hm_z := rn_i2l (w := (tm t.toNatClampNeg).toInt64) (am_cur_of (i := (171, 1, .i2l, (0, 0, 0), 0)) (by decide +kernel)) rfl hm_z
        replace hm_z := rn_lmul (w := u * ((tm t.toNatClampNeg).toInt64)) (am_cur_of (i := (172, 1, .lmul, (0, 0, 0), 0)) (by decide +kernel)) rfl hm_z
        replace hm_z := rn_lcmp (w := lg_cmp (((lf l.toNatClampNeg) * ((fi t.toNatClampNeg).toInt64)) * w) (u * ((tm t.toNatClampNeg).toInt64))) (am_cur_of (i := (173, 1, .lcmp, (0, 0, 0), 0)) (by decide +kernel)) rfl hm_z
        replace hm_z := rn_if (am_cur_of (i := (174, 3, .ifCond .gt 6, (102, 0, 0), 0)) (by decide +kernel)) hm_z
        rcases hm_z with ⟨b257_z, hm_z⟩ | ⟨b257_z, hm_z⟩
        · replace b257_z : (0 : Int32).toInt < (lg_cmp (((lf l.toNatClampNeg) * ((fi t.toNatClampNeg).toInt64)) * w) (u * ((tm t.toNatClampNeg).toInt64))).toInt := b257_z
          replace hm_z := rn_iload (am_cur_of (i := (180, 2, .iload 10, (0, 0, 0), 0)) (by decide +kernel)) g10_z hm_z
          replace hm_z := rn_istore_n (am_cur_of (i := (182, 1, .istore_n 3, (0, 0, 0), 0)) (by decide +kernel)) hm_z
          obtain ⟨_, s258_z, s259_z, g3_z, hm_z⟩ := hm_z
          replace g0_z := s258_z 0 _ (by decide) rfl g0_z
          replace g1_z := s258_z 1 _ (by decide) rfl g1_z
          replace g2_z := s258_z 2 _ (by decide) rfl g2_z
          replace g4_z := s258_z 4 _ (by decide) rfl g4_z
          replace g5_z := s258_z 5 _ (by decide) rfl g5_z
          replace g6_z := s259_z 6 _ (by decide) (by decide) g6_z
          replace g8_z := s259_z 8 _ (by decide) (by decide) g8_z
          replace g10_z := s258_z 10 _ (by decide) rfl g10_z
          replace g11_z := s258_z 11 _ (by decide) rfl g11_z
          replace g12_z := s259_z 12 _ (by decide) (by decide) g12_z
          clear s258_z s259_z
          replace hm_z := rn_iload (am_cur_of (i := (183, 2, .iload 11, (0, 0, 0), 0)) (by decide +kernel)) g11_z hm_z
          replace hm_z := rn_istore (am_cur_of (i := (185, 2, .istore 4, (0, 0, 0), 0)) (by decide +kernel)) hm_z
          obtain ⟨_, s260_z, s261_z, g4_z, hm_z⟩ := hm_z
          replace g0_z := s260_z 0 _ (by decide) rfl g0_z
          replace g1_z := s260_z 1 _ (by decide) rfl g1_z
          replace g2_z := s260_z 2 _ (by decide) rfl g2_z
          replace g3_z := s260_z 3 _ (by decide) rfl g3_z
          replace g5_z := s260_z 5 _ (by decide) rfl g5_z
          replace g6_z := s261_z 6 _ (by decide) (by decide) g6_z
          replace g8_z := s261_z 8 _ (by decide) (by decide) g8_z
          replace g10_z := s260_z 10 _ (by decide) rfl g10_z
          replace g11_z := s260_z 11 _ (by decide) rfl g11_z
          replace g12_z := s261_z 12 _ (by decide) (by decide) g12_z
          clear s260_z s261_z
          replace hm_z := rn_lload (am_cur_of (i := (187, 2, .lload 12, (0, 0, 0), 0)) (by decide +kernel)) g12_z hm_z
          replace hm_z := rn_lstore (am_cur_of (i := (189, 2, .lstore 6, (0, 0, 0), 0)) (by decide +kernel)) hm_z
          obtain ⟨_, s262_z, s263_z, g6_z, hm_z⟩ := hm_z
          replace g0_z := s262_z 0 _ (by decide) (by decide) rfl g0_z
          replace g1_z := s262_z 1 _ (by decide) (by decide) rfl g1_z
          replace g2_z := s262_z 2 _ (by decide) (by decide) rfl g2_z
          replace g3_z := s262_z 3 _ (by decide) (by decide) rfl g3_z
          replace g4_z := s262_z 4 _ (by decide) (by decide) rfl g4_z
          replace g5_z := s262_z 5 _ (by decide) (by decide) rfl g5_z
          replace g8_z := s263_z 8 _ (by decide) (by decide) (by decide) g8_z
          replace g10_z := s262_z 10 _ (by decide) (by decide) rfl g10_z
          replace g11_z := s262_z 11 _ (by decide) (by decide) rfl g11_z
          replace g12_z := s263_z 12 _ (by decide) (by decide) (by decide) g12_z
          clear s262_z s263_z
          replace hm_z := rn_aload_n (am_cur_of (i := (191, 1, .aload_n 0, (0, 0, 0), 0)) (by decide +kernel)) g0_z hm_z
          replace hm_z := rn_getR (x := 177) (am_cur_of (i := (192, 3, .getfield 51, (12, 32, 1416), 0)) (by decide +kernel)) (by decide +kernel) hm_z
          replace hm_z := rn_iload (am_cur_of (i := (195, 2, .iload 11, (0, 0, 0), 0)) (by decide +kernel)) g11_z hm_z
          replace hm_z := rn_iaload (N := 6) (q := t.toNatClampNeg) (v := tm t.toNatClampNeg) (am_cur_of (i := (197, 1, .iaload, (0, 0, 0), 0)) (by decide +kernel)) (by decide +kernel) rfl (E4 t.toNatClampNeg (by omega)) hm_z
          obtain ⟨p264_z, hm_z⟩ := hm_z
          replace hm_z := rn_i2l (w := (tm t.toNatClampNeg).toInt64) (am_cur_of (i := (198, 1, .i2l, (0, 0, 0), 0)) (by decide +kernel)) rfl hm_z
          replace hm_z := rn_lstore (am_cur_of (i := (199, 2, .lstore 8, (0, 0, 0), 0)) (by decide +kernel)) hm_z
          obtain ⟨_, s265_z, s266_z, g8_z, hm_z⟩ := hm_z
          replace g0_z := s265_z 0 _ (by decide) (by decide) rfl g0_z
          replace g1_z := s265_z 1 _ (by decide) (by decide) rfl g1_z
          replace g2_z := s265_z 2 _ (by decide) (by decide) rfl g2_z
          replace g3_z := s265_z 3 _ (by decide) (by decide) rfl g3_z
          replace g4_z := s265_z 4 _ (by decide) (by decide) rfl g4_z
          replace g5_z := s265_z 5 _ (by decide) (by decide) rfl g5_z
          replace g6_z := s266_z 6 _ (by decide) (by decide) (by decide) g6_z
          replace g10_z := s265_z 10 _ (by decide) (by decide) rfl g10_z
          replace g11_z := s265_z 11 _ (by decide) (by decide) rfl g11_z
          replace g12_z := s266_z 12 _ (by decide) (by decide) (by decide) g12_z
          clear s265_z s266_z
          replace hm_z := rn_iinc (w := t + 1) (am_cur_of (i := (201, 3, .iinc 11 1, (0, 0, 0), 0)) (by decide +kernel)) g11_z rfl hm_z
          obtain ⟨_, s267_z, s268_z, g11_z, hm_z⟩ := hm_z
          replace g0_z := s267_z 0 _ (by decide) rfl g0_z
          replace g1_z := s267_z 1 _ (by decide) rfl g1_z
          replace g2_z := s267_z 2 _ (by decide) rfl g2_z
          replace g3_z := s267_z 3 _ (by decide) rfl g3_z
          replace g4_z := s267_z 4 _ (by decide) rfl g4_z
          replace g5_z := s267_z 5 _ (by decide) rfl g5_z
          replace g6_z := s268_z 6 _ (by decide) (by decide) g6_z
          replace g8_z := s268_z 8 _ (by decide) (by decide) g8_z
          replace g10_z := s267_z 10 _ (by decide) rfl g10_z
          replace g12_z := s268_z 12 _ (by decide) (by decide) g12_z
          clear s267_z s268_z
          replace hm_z := rn_gotoL (am_cur_of (i := (204, 3, .goto (-85), (68, 0, 0), 0)) (by decide +kernel)) hm_z
          have st : skT fi tm (lf l.toNatClampNeg) l (k + 1) t u w q = skT fi tm (lf l.toNatClampNeg) l k (t + 1) (lf l.toNatClampNeg * (fi t.toNatClampNeg).toInt64) (tm t.toNatClampNeg).toInt64 (some (l, t)) := skT_1 (show 0 < (lg_cmp (lf l.toNatClampNeg * (fi t.toNatClampNeg).toInt64 * w) (u * (tm t.toNatClampNeg).toInt64)).toInt by omega)
          rw [st]
          obtain ⟨l2_z, f0_z, f1_z, f2_z, f3_z, f4_z, f5_z, f6_z, f8_z, f10_z, f11_z⟩ := ih_z k (t + 1) (lf l.toNatClampNeg * (fi t.toNatClampNeg).toInt64) (tm t.toNatClampNeg).toInt64 (some (l, t)) _ _ E1 E2 E3 E4 eL eT g0_z g1_z g2_z g3_z g4_z g5_z g6_z g8_z g10_z g11_z (by omega) (by omega) hm_z
          exact ⟨l2_z, f0_z, f1_z, f2_z, f3_z, f4_z, f5_z, f6_z, f8_z, f10_z, rn_up (Nat.le_succ _) f11_z⟩
        · replace b257_z : (lg_cmp (((lf l.toNatClampNeg) * ((fi t.toNatClampNeg).toInt64)) * w) (u * ((tm t.toNatClampNeg).toInt64))).toInt ≤ (0 : Int32).toInt := b257_z
          replace hm_z := rn_goto (am_cur_of (i := (177, 3, .goto 24, (114, 0, 0), 0)) (by decide +kernel)) hm_z
          replace hm_z := rn_iinc (w := t + 1) (am_cur_of (i := (201, 3, .iinc 11 1, (0, 0, 0), 0)) (by decide +kernel)) g11_z rfl hm_z
          obtain ⟨_, s269_z, s270_z, g11_z, hm_z⟩ := hm_z
          replace g0_z := s269_z 0 _ (by decide) rfl g0_z
          replace g1_z := s269_z 1 _ (by decide) rfl g1_z
          replace g2_z := s269_z 2 _ (by decide) rfl g2_z
          replace g3_z := s269_z 3 _ (by decide) rfl g3_z
          replace g4_z := s269_z 4 _ (by decide) rfl g4_z
          replace g5_z := s269_z 5 _ (by decide) rfl g5_z
          replace g6_z := s270_z 6 _ (by decide) (by decide) g6_z
          replace g8_z := s270_z 8 _ (by decide) (by decide) g8_z
          replace g10_z := s269_z 10 _ (by decide) rfl g10_z
          replace g12_z := s270_z 12 _ (by decide) (by decide) g12_z
          clear s269_z s270_z
          replace hm_z := rn_gotoL (am_cur_of (i := (204, 3, .goto (-85), (68, 0, 0), 0)) (by decide +kernel)) hm_z
          have st : skT fi tm (lf l.toNatClampNeg) l (k + 1) t u w q = skT fi tm (lf l.toNatClampNeg) l k (t + 1) u w q := skT_0 (show ¬ 0 < (lg_cmp (lf l.toNatClampNeg * (fi t.toNatClampNeg).toInt64 * w) (u * (tm t.toNatClampNeg).toInt64)).toInt by omega)
          rw [st]
          obtain ⟨l2_z, f0_z, f1_z, f2_z, f3_z, f4_z, f5_z, f6_z, f8_z, f10_z, f11_z⟩ := ih_z k (t + 1) u w q _ _ E1 E2 E3 E4 eL eT g0_z g1_z g2_z g3_z g4_z g5_z g6_z g8_z g10_z g11_z (by omega) (by omega) hm_z
          exact ⟨l2_z, f0_z, f1_z, f2_z, f3_z, f4_z, f5_z, f6_z, f8_z, f10_z, rn_up (Nat.le_succ _) f11_z⟩
theorem sj_x {f : Nat} {r : Option Value} {g g' : am_H} {ls : am_L} {kk qq i l a b : Int32} {u w : Int64} (g0_z : am_get ls 0 = some (.ref 164)) (g1_z : am_get ls 1 = some (.int kk)) (g2_z : am_get ls 2 = some (.int qq)) (g3_z : am_get ls 3 = some (.int a)) (g4_z : am_get ls 4 = some (.int b)) (g5_z : am_get ls 5 = some (.int i)) (g6_z : am_get ls 6 = some (.long u)) (g8_z : am_get ls 8 = some (.long w)) (g10_z : am_get ls 10 = some (.int l)) (hm_z : rn (f + 1) am_m233 116 ls [] g r g') : ∃ l3_z, am_get l3_z 0 = some (.ref 164) ∧ am_get l3_z 1 = some (.int kk) ∧ am_get l3_z 2 = some (.int qq) ∧ am_get l3_z 3 = some (.int a) ∧ am_get l3_z 4 = some (.int b) ∧ am_get l3_z 5 = some (.int i) ∧ am_get l3_z 6 = some (.long u) ∧ am_get l3_z 8 = some (.long w) ∧ am_get l3_z 10 = some (.int (l + 1)) ∧ rn f am_m233 62 l3_z [] g r g' := by
  replace hm_z := rn_iinc (w := l + 1) (am_cur_of (i := (207, 3, .iinc 10 1, (0, 0, 0), 0)) (by decide +kernel)) g10_z rfl hm_z
  obtain ⟨_, s271_z, s272_z, g10_z, hm_z⟩ := hm_z
  replace g0_z := s271_z 0 _ (by decide) rfl g0_z
  replace g1_z := s271_z 1 _ (by decide) rfl g1_z
  replace g2_z := s271_z 2 _ (by decide) rfl g2_z
  replace g3_z := s271_z 3 _ (by decide) rfl g3_z
  replace g4_z := s271_z 4 _ (by decide) rfl g4_z
  replace g5_z := s271_z 5 _ (by decide) rfl g5_z
  replace g6_z := s272_z 6 _ (by decide) (by decide) g6_z
  replace g8_z := s272_z 8 _ (by decide) (by decide) g8_z
  clear s271_z s272_z
  replace hm_z := rn_gotoL (am_cur_of (i := (210, 3, .goto (-103), (62, 0, 0), 0)) (by decide +kernel)) hm_z
  exact ⟨_, g0_z, g1_z, g2_z, g3_z, g4_z, g5_z, g6_z, g8_z, g10_z, hm_z⟩
theorem sj_y {f : Nat} {r : Option Value} {g g' : am_H} {ls : am_L} {kk qq i l t a b : Int32} {u w : Int64} {lk : Nat → Int32} {L : Nat} (h3_z : ¬ (lk l.toNatClampNeg).toInt < 3) (E2 : ∀ i : Nat, i < L → rg_v g 197 i = lk i) (hl_z : l.toNatClampNeg < L) (cl : (l.toNatClampNeg : Int) = l.toInt) (g0_z : am_get ls 0 = some (.ref 164)) (g1_z : am_get ls 1 = some (.int kk)) (g2_z : am_get ls 2 = some (.int qq)) (g3_z : am_get ls 3 = some (.int a)) (g4_z : am_get ls 4 = some (.int b)) (g5_z : am_get ls 5 = some (.int i)) (g6_z : am_get ls 6 = some (.long u)) (g8_z : am_get ls 8 = some (.long w)) (g10_z : am_get ls 10 = some (.int l)) (g11_z : am_get ls 11 = some (.int t)) (hm_z : rn (f + 1) am_m233 68 ls [] g r g') : ∃ l3_z, am_get l3_z 0 = some (.ref 164) ∧ am_get l3_z 1 = some (.int kk) ∧ am_get l3_z 2 = some (.int qq) ∧ am_get l3_z 3 = some (.int a) ∧ am_get l3_z 4 = some (.int b) ∧ am_get l3_z 5 = some (.int i) ∧ am_get l3_z 6 = some (.long u) ∧ am_get l3_z 8 = some (.long w) ∧ am_get l3_z 10 = some (.int (l + 1)) ∧ rn f am_m233 62 l3_z [] g r g' := by
  have z3_z : (3 : Int32).toInt = 3 := by decide
  replace hm_z := rn_iload (am_cur_of (i := (119, 2, .iload 11, (0, 0, 0), 0)) (by decide +kernel)) g11_z hm_z
  replace hm_z := rn_aload_n (am_cur_of (i := (121, 1, .aload_n 0, (0, 0, 0), 0)) (by decide +kernel)) g0_z hm_z
  replace hm_z := rn_getI (v := rg_v g 164 15) (am_cur_of (i := (122, 3, .getfield 228, (12, 15, 1399), 0)) (by decide +kernel)) (by decide +kernel) rfl hm_z
  replace hm_z := rn_cmp (am_cur_of (i := (125, 3, .if_icmp .ge 82, (116, 0, 0), 0)) (by decide +kernel)) hm_z
  rcases hm_z with ⟨b273_z, hm_z⟩ | ⟨b273_z, hm_z⟩
  · replace b273_z : (rg_v g 164 15).toInt ≤ t.toInt := b273_z
    replace hm_z := rn_iinc (w := l + 1) (am_cur_of (i := (207, 3, .iinc 10 1, (0, 0, 0), 0)) (by decide +kernel)) g10_z rfl hm_z
    obtain ⟨_, s274_z, s275_z, g10_z, hm_z⟩ := hm_z
    replace g0_z := s274_z 0 _ (by decide) rfl g0_z
    replace g1_z := s274_z 1 _ (by decide) rfl g1_z
    replace g2_z := s274_z 2 _ (by decide) rfl g2_z
    replace g3_z := s274_z 3 _ (by decide) rfl g3_z
    replace g4_z := s274_z 4 _ (by decide) rfl g4_z
    replace g5_z := s274_z 5 _ (by decide) rfl g5_z
    replace g6_z := s275_z 6 _ (by decide) (by decide) g6_z
    replace g8_z := s275_z 8 _ (by decide) (by decide) g8_z
    replace g11_z := s274_z 11 _ (by decide) rfl g11_z
    clear s274_z s275_z
    replace hm_z := rn_gotoL (am_cur_of (i := (210, 3, .goto (-103), (62, 0, 0), 0)) (by decide +kernel)) hm_z
    exact ⟨_, g0_z, g1_z, g2_z, g3_z, g4_z, g5_z, g6_z, g8_z, g10_z, hm_z⟩
  · replace b273_z : t.toInt < (rg_v g 164 15).toInt := b273_z
    replace hm_z := rn_aload_n (am_cur_of (i := (128, 1, .aload_n 0, (0, 0, 0), 0)) (by decide +kernel)) g0_z hm_z
    replace hm_z := rn_getR (x := 197) (am_cur_of (i := (129, 3, .getfield 115, (12, 72, 1456), 0)) (by decide +kernel)) (by decide +kernel) hm_z
    replace hm_z := rn_iload (am_cur_of (i := (132, 2, .iload 10, (0, 0, 0), 0)) (by decide +kernel)) g10_z hm_z
    replace hm_z := rn_iaload (N := 6) (q := l.toNatClampNeg) (v := lk l.toNatClampNeg) (am_cur_of (i := (134, 1, .iaload, (0, 0, 0), 0)) (by decide +kernel)) (by decide +kernel) rfl (E2 l.toNatClampNeg (by omega)) hm_z
    obtain ⟨p276_z, hm_z⟩ := hm_z
    replace hm_z := rn_iconst (w := 3) (am_cur_of (i := (135, 1, .iconst 3, (0, 0, 0), 0)) (by decide +kernel)) (by decide) hm_z
    replace hm_z := rn_cmp (am_cur_of (i := (136, 3, .if_icmp .ge 71, (116, 0, 0), 0)) (by decide +kernel)) hm_z
    rcases hm_z with ⟨b277_z, hm_z⟩ | ⟨b277_z, hm_z⟩
    · replace b277_z : (3 : Int32).toInt ≤ (lk l.toNatClampNeg).toInt := b277_z
      replace hm_z := rn_iinc (w := l + 1) (am_cur_of (i := (207, 3, .iinc 10 1, (0, 0, 0), 0)) (by decide +kernel)) g10_z rfl hm_z
      obtain ⟨_, s278_z, s279_z, g10_z, hm_z⟩ := hm_z
      replace g0_z := s278_z 0 _ (by decide) rfl g0_z
      replace g1_z := s278_z 1 _ (by decide) rfl g1_z
      replace g2_z := s278_z 2 _ (by decide) rfl g2_z
      replace g3_z := s278_z 3 _ (by decide) rfl g3_z
      replace g4_z := s278_z 4 _ (by decide) rfl g4_z
      replace g5_z := s278_z 5 _ (by decide) rfl g5_z
      replace g6_z := s279_z 6 _ (by decide) (by decide) g6_z
      replace g8_z := s279_z 8 _ (by decide) (by decide) g8_z
      replace g11_z := s278_z 11 _ (by decide) rfl g11_z
      clear s278_z s279_z
      replace hm_z := rn_gotoL (am_cur_of (i := (210, 3, .goto (-103), (62, 0, 0), 0)) (by decide +kernel)) hm_z
      exact ⟨_, g0_z, g1_z, g2_z, g3_z, g4_z, g5_z, g6_z, g8_z, g10_z, hm_z⟩
    · replace b277_z : (lk l.toNatClampNeg).toInt < (3 : Int32).toInt := b277_z
      exact absurd b277_z (by omega)
theorem sj_l {r : Option Value} {g' : am_H} {kk qq i : Int32} {lf : Nat → Int64} {lk fi tm : Nat → Int32} {L T : Nat} (T9 : T ≤ 99) (L9 : L ≤ 99) : ∀ (f k : Nat) (l : Int32) (u w : Int64) (q : skQ) (ls : am_L) (g : am_H), (∀ i : Nat, i < L → rg_l g 196 i = lf i) → (∀ i : Nat, i < L → rg_v g 197 i = lk i) → (∀ t : Nat, t < T → rg_v g 176 t = fi t) → (∀ t : Nat, t < T → rg_v g 177 t = tm t) → (rg_v g 164 14).toInt = L → (rg_v g 164 15).toInt = T → am_get ls 0 = some (.ref 164) → am_get ls 1 = some (.int kk) → am_get ls 2 = some (.int qq) → am_get ls 3 = some (.int (skA q (-2))) → am_get ls 4 = some (.int (skZ q (-2))) → am_get ls 5 = some (.int i) → am_get ls 6 = some (.long u) → am_get ls 8 = some (.long w) → am_get ls 10 = some (.int l) → 0 ≤ l.toInt → l.toInt + k = L → rn f am_m233 62 ls [] g r g' → ∃ l2_z, am_get l2_z 0 = some (.ref 164) ∧ am_get l2_z 1 = some (.int kk) ∧ am_get l2_z 2 = some (.int qq) ∧ am_get l2_z 3 = some (.int (skA (skL lf lk fi tm T k l u w q).2.2 (-2))) ∧ am_get l2_z 4 = some (.int (skZ (skL lf lk fi tm T k l u w q).2.2 (-2))) ∧ am_get l2_z 5 = some (.int i) ∧ rn f am_m233 118 l2_z [] g r g' := by
  intro f
  induction f with
  | zero => intro k l u w q ls g E1 E2 E3 E4 eL eT g0_z g1_z g2_z g3_z g4_z g5_z g6_z g8_z g10_z l0_z lk_ hm_z; exact absurd hm_z rn_0
  | succ f ih_z =>
    intro k l u w q ls g E1 E2 E3 E4 eL eT g0_z g1_z g2_z g3_z g4_z g5_z g6_z g8_z g10_z l0_z lk_ hm_z
    have cl := rt_cl l0_z
    replace hm_z := rn_iload (am_cur_of (i := (107, 2, .iload 10, (0, 0, 0), 0)) (by decide +kernel)) g10_z hm_z
    replace hm_z := rn_aload_n (am_cur_of (i := (109, 1, .aload_n 0, (0, 0, 0), 0)) (by decide +kernel)) g0_z hm_z
    replace hm_z := rn_getI (v := rg_v g 164 14) (am_cur_of (i := (110, 3, .getfield 225, (12, 14, 1398), 0)) (by decide +kernel)) (by decide +kernel) rfl hm_z
    replace hm_z := rn_cmp (am_cur_of (i := (113, 3, .if_icmp .ge 100, (118, 0, 0), 0)) (by decide +kernel)) hm_z
    rcases hm_z with ⟨b280_z, hm_z⟩ | ⟨b280_z, hm_z⟩
    · replace b280_z : (rg_v g 164 14).toInt ≤ l.toInt := b280_z
      obtain rfl : k = 0 := by omega
      exact ⟨_, g0_z, g1_z, g2_z, g3_z, g4_z, g5_z, hm_z⟩
    · replace b280_z : l.toInt < (rg_v g 164 14).toInt := b280_z
      obtain ⟨k, rfl⟩ : ∃ k2_z, k = k2_z + 1 := ⟨k - 1, by omega⟩
      have c1_z := rt_c1 l0_z (by omega)
      replace hm_z := rn_iconst (w := 0) (am_cur_of (i := (116, 1, .iconst 0, (0, 0, 0), 0)) (by decide +kernel)) (by decide) hm_z
      replace hm_z := rn_istore (am_cur_of (i := (117, 2, .istore 11, (0, 0, 0), 0)) (by decide +kernel)) hm_z
      obtain ⟨_, s281_z, s282_z, g11_z, hm_z⟩ := hm_z
      replace g0_z := s281_z 0 _ (by decide) rfl g0_z
      replace g1_z := s281_z 1 _ (by decide) rfl g1_z
      replace g2_z := s281_z 2 _ (by decide) rfl g2_z
      replace g3_z := s281_z 3 _ (by decide) rfl g3_z
      replace g4_z := s281_z 4 _ (by decide) rfl g4_z
      replace g5_z := s281_z 5 _ (by decide) rfl g5_z
      replace g6_z := s282_z 6 _ (by decide) (by decide) g6_z
      replace g8_z := s282_z 8 _ (by decide) (by decide) g8_z
      replace g10_z := s281_z 10 _ (by decide) rfl g10_z
      clear s281_z s282_z
      by_cases h3_z : (lk l.toNatClampNeg).toInt < 3
      · rw [skL_1 h3_z]
        obtain ⟨l2_z, f0_z, f1_z, f2_z, f3_z, f4_z, f5_z, f6_z, f8_z, f10_z, hm2_z⟩ := sj_t (by omega) l0_z h3_z T9 L9 _ T 0 u w q _ _ E1 E2 E3 E4 eL eT g0_z g1_z g2_z g3_z g4_z g5_z g6_z g8_z g10_z g11_z (by decide) (by rw [show (0 : Int32).toInt = 0 by decide]; omega) hm_z
        obtain ⟨l3_z, e0_z, e1_z, e2_z, e3_z, e4_z, e5_z, e6_z, e8_z, e10_z, hm3_z⟩ := sj_x f0_z f1_z f2_z f3_z f4_z f5_z f6_z f8_z f10_z (rn_up (Nat.le_succ _) hm2_z)
        obtain ⟨l4_z, d0_z, d1_z, d2_z, d3_z, d4_z, d5_z, d6_z⟩ := ih_z k (l + 1) _ _ _ l3_z _ E1 E2 E3 E4 eL eT e0_z e1_z e2_z e3_z e4_z e5_z e6_z e8_z e10_z (by omega) (by omega) hm3_z
        exact ⟨l4_z, d0_z, d1_z, d2_z, d3_z, d4_z, d5_z, rn_up (Nat.le_succ _) d6_z⟩
      · rw [skL_0 h3_z]
        obtain ⟨l3_z, e0_z, e1_z, e2_z, e3_z, e4_z, e5_z, e6_z, e8_z, e10_z, hm3_z⟩ := sj_y h3_z E2 (by omega) cl g0_z g1_z g2_z g3_z g4_z g5_z g6_z g8_z g10_z g11_z (rn_up (Nat.le_succ _) hm_z)
        obtain ⟨l4_z, d0_z, d1_z, d2_z, d3_z, d4_z, d5_z, d6_z⟩ := ih_z k (l + 1) u w q l3_z _ E1 E2 E3 E4 eL eT e0_z e1_z e2_z e3_z e4_z e5_z e6_z e8_z e10_z (by omega) (by omega) hm3_z
        exact ⟨l4_z, d0_z, d1_z, d2_z, d3_z, d4_z, d5_z, rn_up (Nat.le_succ _) d6_z⟩
theorem sj_m {r : Option Value} {g' : am_H} {kk qq : Int32} (hq0_z : 0 ≤ kk.toInt ∧ 0 ≤ qq.toInt ∧ qq.toInt ≤ 1) {fi tm : Nat → Int32} {L T : Nat} (T9 : T ≤ 99) (L9 : L ≤ 99) (hf_z : ∀ t, t < T → 1 ≤ (fi t).toInt ∧ (fi t).toInt ≤ 100) (ht : ∀ t, t < T → 1 ≤ (tm t).toInt ∧ (tm t).toInt ≤ 99) : ∀ (f m : Nat) (i : Int32) (lf : Nat → Int64) (lk : Nat → Int32) (q : skQ) (ls : am_L) (g : am_H), skG lf lk L → skC lk L ≤ 18 → (∀ i : Nat, i < L → rg_l g 196 i = lf i) → (∀ i : Nat, i < L → rg_v g 197 i = lk i) → (∀ t : Nat, t < T → rg_v g 176 t = fi t) → (∀ t : Nat, t < T → rg_v g 177 t = tm t) → (rg_v g 164 14).toInt = L → (rg_v g 164 15).toInt = T → (m = 0 → ¬ q = none) → am_get ls 0 = some (.ref 164) → am_get ls 1 = some (.int kk) → am_get ls 2 = some (.int qq) → am_get ls 3 = some (.int (skA q (-2))) → am_get ls 4 = some (.int (skZ q (-2))) → am_get ls 5 = some (.int i) → 0 ≤ i.toInt → i.toInt + skC lk L ≤ 20 → i.toInt + m = kk.toInt + 1 → rn f am_m233 49 ls [] g r g' → r = some (.int (skR kk qq (skI fi tm L T m lf lk q))) := by
  intro f
  induction f with
  | zero => intro m i lf lk q ls g G C18 E1 E2 E3 E4 eL eT q0_z g0_z g1_z g2_z g3_z g4_z g5_z i0_z i9_z im hm_z; exact absurd hm_z rn_0
  | succ f ih_z =>
    intro m i lf lk q ls g G C18 E1 E2 E3 E4 eL eT q0_z g0_z g1_z g2_z g3_z g4_z g5_z i0_z i9_z im hm_z
    have z0_z : (0 : Int32).toInt = 0 := by decide
    replace hm_z := rn_iload (am_cur_of (i := (85, 2, .iload 5, (0, 0, 0), 0)) (by decide +kernel)) g5_z hm_z
    replace hm_z := rn_iload_n (am_cur_of (i := (87, 1, .iload_n 1, (0, 0, 0), 0)) (by decide +kernel)) g1_z hm_z
    replace hm_z := rn_cmp (am_cur_of (i := (88, 3, .if_icmp .gt 176, (150, 0, 0), 0)) (by decide +kernel)) hm_z
    rcases hm_z with ⟨b283_z, hm_z⟩ | ⟨b283_z, hm_z⟩
    · replace b283_z : kk.toInt < i.toInt := b283_z
      obtain rfl : m = 0 := by omega
      replace hm_z := rn_iload_n (am_cur_of (i := (264, 1, .iload_n 2, (0, 0, 0), 0)) (by decide +kernel)) g2_z hm_z
      replace hm_z := rn_if (am_cur_of (i := (265, 3, .ifCond .ne 7, (154, 0, 0), 0)) (by decide +kernel)) hm_z
      rcases hm_z with ⟨b284_z, hm_z⟩ | ⟨b284_z, hm_z⟩
      · replace b284_z : ¬ qq = (0 : Int32) ∧ ¬ qq.toInt = (0 : Int32).toInt := b284_z
        replace hm_z := rn_iload (am_cur_of (i := (272, 2, .iload 4, (0, 0, 0), 0)) (by decide +kernel)) g4_z hm_z
        replace hm_z := rn_iret (am_cur_of (i := (274, 1, .ireturn, (0, 0, 0), 0)) (by decide +kernel)) hm_z
        obtain ⟨e285_z, e286_z⟩ := hm_z
        rcases q with _ | z
        · exact absurd rfl (q0_z rfl)
        · exact e285_z.trans (congrArg (fun q => some (Value.int q)) (skR_2 hq0_z b284_z.1).symm)
      · replace b284_z : qq = (0 : Int32) ∧ qq.toInt = (0 : Int32).toInt := b284_z
        replace hm_z := rn_iload_n (am_cur_of (i := (268, 1, .iload_n 3, (0, 0, 0), 0)) (by decide +kernel)) g3_z hm_z
        replace hm_z := rn_goto (am_cur_of (i := (269, 3, .goto 5, (155, 0, 0), 0)) (by decide +kernel)) hm_z
        replace hm_z := rn_iret (am_cur_of (i := (274, 1, .ireturn, (0, 0, 0), 0)) (by decide +kernel)) hm_z
        obtain ⟨e287_z, e288_z⟩ := hm_z
        rcases q with _ | z
        · exact absurd rfl (q0_z rfl)
        · exact e287_z.trans (congrArg (fun q => some (Value.int q)) (skR_1 hq0_z b284_z.1).symm)
    · replace b283_z : i.toInt ≤ kk.toInt := b283_z
      obtain ⟨m, rfl⟩ : ∃ m2_z, m = m2_z + 1 := ⟨m - 1, by omega⟩
      have c1_z := rt_c1 i0_z (by omega)
      replace hm_z := rn_bipush (w := (-2)) (am_cur_of (i := (91, 2, .bipush (-2), (0, 0, 0), 0)) (by decide +kernel)) (by decide) hm_z
      replace hm_z := rn_istore_n (am_cur_of (i := (93, 1, .istore_n 3, (0, 0, 0), 0)) (by decide +kernel)) hm_z
      obtain ⟨_, s289_z, s290_z, g3_z, hm_z⟩ := hm_z
      replace g0_z := s289_z 0 _ (by decide) rfl g0_z
      replace g1_z := s289_z 1 _ (by decide) rfl g1_z
      replace g2_z := s289_z 2 _ (by decide) rfl g2_z
      replace g4_z := s289_z 4 _ (by decide) rfl g4_z
      replace g5_z := s289_z 5 _ (by decide) rfl g5_z
      clear s289_z s290_z
      replace hm_z := rn_bipush (w := (-2)) (am_cur_of (i := (94, 2, .bipush (-2), (0, 0, 0), 0)) (by decide +kernel)) (by decide) hm_z
      replace hm_z := rn_istore (am_cur_of (i := (96, 2, .istore 4, (0, 0, 0), 0)) (by decide +kernel)) hm_z
      obtain ⟨_, s291_z, s292_z, g4_z, hm_z⟩ := hm_z
      replace g0_z := s291_z 0 _ (by decide) rfl g0_z
      replace g1_z := s291_z 1 _ (by decide) rfl g1_z
      replace g2_z := s291_z 2 _ (by decide) rfl g2_z
      replace g3_z := s291_z 3 _ (by decide) rfl g3_z
      replace g5_z := s291_z 5 _ (by decide) rfl g5_z
      clear s291_z s292_z
      replace hm_z := rn_lconst (w := 0) (am_cur_of (i := (98, 1, .lconst 0, (0, 0, 0), 0)) (by decide +kernel)) rfl hm_z
      replace hm_z := rn_lstore (am_cur_of (i := (99, 2, .lstore 6, (0, 0, 0), 0)) (by decide +kernel)) hm_z
      obtain ⟨_, s293_z, s294_z, g6_z, hm_z⟩ := hm_z
      replace g0_z := s293_z 0 _ (by decide) (by decide) rfl g0_z
      replace g1_z := s293_z 1 _ (by decide) (by decide) rfl g1_z
      replace g2_z := s293_z 2 _ (by decide) (by decide) rfl g2_z
      replace g3_z := s293_z 3 _ (by decide) (by decide) rfl g3_z
      replace g4_z := s293_z 4 _ (by decide) (by decide) rfl g4_z
      replace g5_z := s293_z 5 _ (by decide) (by decide) rfl g5_z
      clear s293_z s294_z
      replace hm_z := rn_lconst (w := 1) (am_cur_of (i := (101, 1, .lconst 1, (0, 0, 0), 0)) (by decide +kernel)) rfl hm_z
      replace hm_z := rn_lstore (am_cur_of (i := (102, 2, .lstore 8, (0, 0, 0), 0)) (by decide +kernel)) hm_z
      obtain ⟨_, s295_z, s296_z, g8_z, hm_z⟩ := hm_z
      replace g0_z := s295_z 0 _ (by decide) (by decide) rfl g0_z
      replace g1_z := s295_z 1 _ (by decide) (by decide) rfl g1_z
      replace g2_z := s295_z 2 _ (by decide) (by decide) rfl g2_z
      replace g3_z := s295_z 3 _ (by decide) (by decide) rfl g3_z
      replace g4_z := s295_z 4 _ (by decide) (by decide) rfl g4_z
      replace g5_z := s295_z 5 _ (by decide) (by decide) rfl g5_z
      replace g6_z := s296_z 6 _ (by decide) (by decide) (by decide) g6_z
      clear s295_z s296_z
      replace hm_z := rn_iconst (w := 0) (am_cur_of (i := (104, 1, .iconst 0, (0, 0, 0), 0)) (by decide +kernel)) (by decide) hm_z
      replace hm_z := rn_istore (am_cur_of (i := (105, 2, .istore 10, (0, 0, 0), 0)) (by decide +kernel)) hm_z
      obtain ⟨_, s297_z, s298_z, g10_z, hm_z⟩ := hm_z
      replace g0_z := s297_z 0 _ (by decide) rfl g0_z
      replace g1_z := s297_z 1 _ (by decide) rfl g1_z
      replace g2_z := s297_z 2 _ (by decide) rfl g2_z
      replace g3_z := s297_z 3 _ (by decide) rfl g3_z
      replace g4_z := s297_z 4 _ (by decide) rfl g4_z
      replace g5_z := s297_z 5 _ (by decide) rfl g5_z
      replace g6_z := s298_z 6 _ (by decide) (by decide) g6_z
      replace g8_z := s298_z 8 _ (by decide) (by decide) g8_z
      clear s297_z s298_z
      obtain ⟨l4_z, d0_z, d1_z, d2_z, d3_z, d4_z, d5_z, d6_z⟩ := sj_l (lf := lf) (lk := lk) T9 L9 _ L 0 0 1 none _ _ E1 E2 E3 E4 eL eT g0_z g1_z g2_z g3_z g4_z g5_z g6_z g8_z g10_z (by decide) (by rw [show (0 : Int32).toInt = 0 by decide]; omega) hm_z
      replace d3_z : am_get l4_z 3 = some (.int (skA (skN lf lk fi tm L T).2.2 (-2))) := d3_z
      replace d4_z : am_get l4_z 4 = some (.int (skZ (skN lf lk fi tm L T).2.2 (-2))) := d4_z
      clear g0_z g1_z g2_z g3_z g4_z g5_z g6_z g8_z g10_z hm_z
      have g0_z := d0_z
      have g1_z := d1_z
      have g2_z := d2_z
      have g5_z := d5_z
      have hm_z := d6_z
      rcases skN_b L9 T9 G hf_z ht with ⟨n1_z, n2_z⟩ | ⟨l2_z, t2_z, n1_z, n2_z, ⟨l0_z, l9_z⟩, ⟨t0_z, t9_z⟩, n3_z⟩
      · rw [n1_z] at d3_z d4_z
        replace d3_z : am_get l4_z 3 = some (.int (-2)) := d3_z
        have g3_z := d3_z
        replace hm_z := rn_iload_n (am_cur_of (i := (213, 1, .iload_n 3, (0, 0, 0), 0)) (by decide +kernel)) g3_z hm_z
        replace hm_z := rn_ifF (am_cur_of (i := (214, 3, .ifCond .ge 6, (122, 0, 0), 0)) (by decide +kernel)) (by decide) hm_z
        replace hm_z := rn_bipush (w := (-2)) (am_cur_of (i := (217, 2, .bipush (-2), (0, 0, 0), 0)) (by decide +kernel)) (by decide) hm_z
        replace hm_z := rn_iret (am_cur_of (i := (219, 1, .ireturn, (0, 0, 0), 0)) (by decide +kernel)) hm_z
        obtain ⟨e299_z, e300_z⟩ := hm_z
        rw [skI_0 n1_z]
        exact e299_z.trans (congrArg (fun q => some (Value.int q)) (skR_0 hq0_z).symm)
      · rw [n1_z] at d3_z d4_z
        replace d3_z : am_get l4_z 3 = some (.int l2_z) := d3_z
        replace d4_z : am_get l4_z 4 = some (.int t2_z) := d4_z
        have g3_z := d3_z
        have g4_z := d4_z
        have cl := rt_cl l0_z
        have ct := rt_cl t0_z
        have cv_z := skC_v L (l := l2_z) (lk := lk) (by omega) n3_z (by have := (G l2_z.toNatClampNeg (by omega)).2.1; omega)
        replace hm_z := rn_iload_n (am_cur_of (i := (213, 1, .iload_n 3, (0, 0, 0), 0)) (by decide +kernel)) g3_z hm_z
        replace hm_z := rn_if (am_cur_of (i := (214, 3, .ifCond .ge 6, (122, 0, 0), 0)) (by decide +kernel)) hm_z
        rcases hm_z with ⟨b301_z, hm_z⟩ | ⟨b301_z, hm_z⟩
        · replace b301_z : (0 : Int32).toInt ≤ l2_z.toInt := b301_z
          replace hm_z := rn_aload_n (am_cur_of (i := (220, 1, .aload_n 0, (0, 0, 0), 0)) (by decide +kernel)) g0_z hm_z
          replace hm_z := rn_getR (x := 196) (am_cur_of (i := (221, 3, .getfield 112, (12, 71, 1455), 0)) (by decide +kernel)) (by decide +kernel) hm_z
          replace hm_z := rn_iload_n (am_cur_of (i := (224, 1, .iload_n 3, (0, 0, 0), 0)) (by decide +kernel)) g3_z hm_z
          replace hm_z := rn_aload_n (am_cur_of (i := (225, 1, .aload_n 0, (0, 0, 0), 0)) (by decide +kernel)) g0_z hm_z
          replace hm_z := rn_getR (x := 196) (am_cur_of (i := (226, 3, .getfield 112, (12, 71, 1455), 0)) (by decide +kernel)) (by decide +kernel) hm_z
          replace hm_z := rn_iload_n (am_cur_of (i := (229, 1, .iload_n 3, (0, 0, 0), 0)) (by decide +kernel)) g3_z hm_z
          replace hm_z := rn_laload (N := 6) (q := l2_z.toNatClampNeg) (v := lf l2_z.toNatClampNeg) (am_cur_of (i := (230, 1, .laload, (0, 0, 0), 0)) (by decide +kernel)) (by decide +kernel) rfl (E1 l2_z.toNatClampNeg (by omega)) hm_z
          obtain ⟨p302_z, hm_z⟩ := hm_z
          replace hm_z := rn_bipush (w := 100) (am_cur_of (i := (231, 2, .bipush 100, (0, 0, 0), 0)) (by decide +kernel)) (by decide) hm_z
          replace hm_z := rn_aload_n (am_cur_of (i := (233, 1, .aload_n 0, (0, 0, 0), 0)) (by decide +kernel)) g0_z hm_z
          replace hm_z := rn_getR (x := 176) (am_cur_of (i := (234, 3, .getfield 48, (12, 31, 1415), 0)) (by decide +kernel)) (by decide +kernel) hm_z
          replace hm_z := rn_iload (am_cur_of (i := (237, 2, .iload 4, (0, 0, 0), 0)) (by decide +kernel)) g4_z hm_z
          replace hm_z := rn_iaload (N := 6) (q := t2_z.toNatClampNeg) (v := fi t2_z.toNatClampNeg) (am_cur_of (i := (239, 1, .iaload, (0, 0, 0), 0)) (by decide +kernel)) (by decide +kernel) rfl (E3 t2_z.toNatClampNeg (by omega)) hm_z
          obtain ⟨p303_z, hm_z⟩ := hm_z
          replace hm_z := rn_isub (w := (100 : Int32) - (fi t2_z.toNatClampNeg)) (am_cur_of (i := (240, 1, .isub, (0, 0, 0), 0)) (by decide +kernel)) rfl hm_z
          replace hm_z := rn_i2l (w := ((100 : Int32) - (fi t2_z.toNatClampNeg)).toInt64) (am_cur_of (i := (241, 1, .i2l, (0, 0, 0), 0)) (by decide +kernel)) rfl hm_z
          replace hm_z := rn_lmul (w := (lf l2_z.toNatClampNeg) * (((100 : Int32) - (fi t2_z.toNatClampNeg)).toInt64)) (am_cur_of (i := (242, 1, .lmul, (0, 0, 0), 0)) (by decide +kernel)) rfl hm_z
          replace hm_z := rn_ldc2 (w := 100) (am_cur_of (i := (243, 3, .ldc2_w 509, (0, 0, 1967), 100)) (by decide +kernel)) (by decide) hm_z
          replace hm_z := rn_ldiv (w := ((lf l2_z.toNatClampNeg) * (((100 : Int32) - (fi t2_z.toNatClampNeg)).toInt64)) / 100) (am_cur_of (i := (246, 1, .ldiv, (0, 0, 0), 0)) (by decide +kernel)) rfl hm_z
          obtain ⟨d304_z, hm_z⟩ := hm_z
          replace hm_z := rn_lastore (N := 6) (q := l2_z.toNatClampNeg) (am_cur_of (i := (247, 1, .lastore, (0, 0, 0), 0)) (by decide +kernel)) (by decide +kernel) rfl hm_z
          obtain ⟨p305_z, hm_z⟩ := hm_z
          replace hm_z := rn_aload_n (am_cur_of (i := (248, 1, .aload_n 0, (0, 0, 0), 0)) (by decide +kernel)) g0_z hm_z
          replace hm_z := rn_getR (x := 197) (am_cur_of (i := (249, 3, .getfield 115, (12, 72, 1456), 0)) (by decide +kernel)) (by decide +kernel) hm_z
          replace hm_z := rn_iload_n (am_cur_of (i := (252, 1, .iload_n 3, (0, 0, 0), 0)) (by decide +kernel)) g3_z hm_z
          replace hm_z := rn_dup2 (am_cur_of (i := (253, 1, .dup2, (0, 0, 0), 0)) (by decide +kernel)) hm_z
          replace hm_z := rn_iaload (N := 6) (q := l2_z.toNatClampNeg) (v := lk l2_z.toNatClampNeg) (am_cur_of (i := (254, 1, .iaload, (0, 0, 0), 0)) (by decide +kernel)) (by decide +kernel) rfl ((rg_v_other (by omega)).trans ((E2 l2_z.toNatClampNeg (by omega)))) hm_z
          obtain ⟨p306_z, hm_z⟩ := hm_z
          replace hm_z := rn_iconst (w := 1) (am_cur_of (i := (255, 1, .iconst 1, (0, 0, 0), 0)) (by decide +kernel)) (by decide) hm_z
          replace hm_z := rn_iadd (w := (lk l2_z.toNatClampNeg) + 1) (am_cur_of (i := (256, 1, .iadd, (0, 0, 0), 0)) (by decide +kernel)) rfl hm_z
          replace hm_z := rn_iastore (N := 6) (q := l2_z.toNatClampNeg) (am_cur_of (i := (257, 1, .iastore, (0, 0, 0), 0)) (by decide +kernel)) (by decide +kernel) rfl hm_z
          obtain ⟨p307_z, hm_z⟩ := hm_z
          replace hm_z := rn_iinc (w := i + 1) (am_cur_of (i := (258, 3, .iinc 5 1, (0, 0, 0), 0)) (by decide +kernel)) g5_z rfl hm_z
          obtain ⟨_, s308_z, s309_z, g5_z, hm_z⟩ := hm_z
          replace g0_z := s308_z 0 _ (by decide) rfl g0_z
          replace g1_z := s308_z 1 _ (by decide) rfl g1_z
          replace g2_z := s308_z 2 _ (by decide) rfl g2_z
          replace g3_z := s308_z 3 _ (by decide) rfl g3_z
          replace g4_z := s308_z 4 _ (by decide) rfl g4_z
          clear s308_z s309_z
          replace hm_z := rn_gotoL (am_cur_of (i := (261, 3, .goto (-176), (49, 0, 0), 0)) (by decide +kernel)) hm_z
          rw [skI_1 n1_z]
          refine ih_z m (i + 1) (skU lf fi l2_z t2_z) (skV lk l2_z) (some (l2_z, t2_z)) _ (am_up (am_up g 196 l2_z.toNatClampNeg (.long (((lf l2_z.toNatClampNeg) * (((100 : Int32) - (fi t2_z.toNatClampNeg)).toInt64)) / 100))) 197 l2_z.toNatClampNeg (.int ((lk l2_z.toNatClampNeg) + 1))) (skG_u G hf_z (by omega) (by omega) n3_z) (by omega) (fun n hn_z => ?_) (fun n hn_z => ?_) (fun n hn_z => ((rg_v_other (by omega)).trans ((rg_v_other (by omega)).trans (rfl))).trans (E3 n hn_z)) (fun n hn_z => ((rg_v_other (by omega)).trans ((rg_v_other (by omega)).trans (rfl))).trans (E4 n hn_z)) ((congrArg Int32.toInt ((rg_v_other (by omega)).trans ((rg_v_other (by omega)).trans (rfl)))).trans eL) ((congrArg Int32.toInt ((rg_v_other (by omega)).trans ((rg_v_other (by omega)).trans (rfl)))).trans eT) (fun _ z => by cases z) g0_z g1_z g2_z g3_z g4_z g5_z (by omega) (by omega) (by omega) hm_z
          · by_cases e : n = l2_z.toNatClampNeg
            · subst e
              exact (((rg_l_other (by omega)).trans (rg_l_self))).trans (if_pos rfl).symm
            · exact ((rg_l_other (by omega)).trans ((rg_l_other (by omega)).trans (rfl))).trans ((E1 n hn_z).trans (if_neg e).symm)
          · by_cases e : n = l2_z.toNatClampNeg
            · subst e
              exact (rg_v_self).trans (if_pos rfl).symm
            · exact ((rg_v_other (by omega)).trans ((rg_v_other (by omega)).trans (rfl))).trans ((E2 n hn_z).trans (if_neg e).symm)
        · replace b301_z : l2_z.toInt < (0 : Int32).toInt := b301_z
          omega
theorem sj_bit {x : Int32} : (x &&& 1) = 0 ∨ (x &&& 1) = 1 := by
  rcases mf_bit (x := x) with h | h
  · exact Or.inl (Int32.toInt_inj.mp (h.trans (by decide)))
  · exact Or.inr (Int32.toInt_inj.mp (h.trans (by decide)))
theorem sj_i {r : Option Value} {g' : am_H} {x kk qq : Int32} {W : Nat → Int32} {L : Nat} (L9 : L ≤ 99) : ∀ (f : Nat) (i : Int32) (ls : am_L) (g : am_H), rg_v g 164 57 = x → (∀ n : Nat, n < L → rg_v g 173 n = W n) → (rg_v g 164 14).toInt = L → (∀ n : Nat, (n : Int) < i.toInt → rg_l g 196 n = sk0_z x W n ∧ rg_v g 197 n = 0) → 0 ≤ i.toInt → i.toInt ≤ L → am_get ls 0 = some (.ref 164) → am_get ls 1 = some (.int kk) → am_get ls 2 = some (.int qq) → am_get ls 3 = some (.int i) → rn f am_m233 14 ls [] g r g' → ∃ l2_z g2_z, am_get l2_z 0 = some (.ref 164) ∧ am_get l2_z 1 = some (.int kk) ∧ am_get l2_z 2 = some (.int qq) ∧ rn f am_m233 43 l2_z [] g2_z r g' ∧ (∀ n : Nat, n < L → rg_l g2_z 196 n = sk0_z x W n ∧ rg_v g2_z 197 n = 0) ∧ ∀ o k, ¬ (o = 196 ∨ o = 197) → g2_z o k = g o k := by
  intro f
  induction f with
  | zero => intro i ls g ex EW eL E i0_z iL g0_z g1_z g2_z g3_z hm_z; exact absurd hm_z rn_0
  | succ f ih_z =>
    intro i ls g ex EW eL E i0_z iL g0_z g1_z g2_z g3_z hm_z
    have ci_z := rt_cl i0_z
    have z1_z : (1 : Int32).toInt = 1 := by decide
    replace hm_z := rn_iload_n (am_cur_of (i := (22, 1, .iload_n 3, (0, 0, 0), 0)) (by decide +kernel)) g3_z hm_z
    replace hm_z := rn_aload_n (am_cur_of (i := (23, 1, .aload_n 0, (0, 0, 0), 0)) (by decide +kernel)) g0_z hm_z
    replace hm_z := rn_getI (v := rg_v g 164 14) (am_cur_of (i := (24, 3, .getfield 225, (12, 14, 1398), 0)) (by decide +kernel)) (by decide +kernel) rfl hm_z
    replace hm_z := rn_cmp (am_cur_of (i := (27, 3, .if_icmp .ge 48, (43, 0, 0), 0)) (by decide +kernel)) hm_z
    rcases hm_z with ⟨b310_z, hm_z⟩ | ⟨b310_z, hm_z⟩
    · replace b310_z : (rg_v g 164 14).toInt ≤ i.toInt := b310_z
      exact ⟨_, _, g0_z, g1_z, g2_z, hm_z, fun n hn_z => E n (by omega), fun _ _ _ => rfl⟩
    · replace b310_z : i.toInt < (rg_v g 164 14).toInt := b310_z
      have c1_z := rt_c1 i0_z (by omega)
      replace hm_z := rn_aload_n (am_cur_of (i := (30, 1, .aload_n 0, (0, 0, 0), 0)) (by decide +kernel)) g0_z hm_z
      replace hm_z := rn_getR (x := 196) (am_cur_of (i := (31, 3, .getfield 112, (12, 71, 1455), 0)) (by decide +kernel)) (by decide +kernel) hm_z
      replace hm_z := rn_iload_n (am_cur_of (i := (34, 1, .iload_n 3, (0, 0, 0), 0)) (by decide +kernel)) g3_z hm_z
      replace hm_z := rn_aload_n (am_cur_of (i := (35, 1, .aload_n 0, (0, 0, 0), 0)) (by decide +kernel)) g0_z hm_z
      replace hm_z := rn_getI (v := x) (am_cur_of (i := (36, 3, .getfield 349, (12, 57, 1441), 0)) (by decide +kernel)) (by decide +kernel) ex hm_z
      replace hm_z := rn_iload_n (am_cur_of (i := (39, 1, .iload_n 3, (0, 0, 0), 0)) (by decide +kernel)) g3_z hm_z
      replace hm_z := rn_callS (M' := am_m202) (ar := [.int i, .int x]) (rest := [.int i, .ref 196]) (L := lv_args 0 [.int x, .int i]) (am_cur_of (i := (40, 3, .invokestatic 400, (202, 1840, 3), 0)) (by decide +kernel)) rfl rfl rfl rfl hm_z
      obtain ⟨r311_z, h312_z, q313_z, hm_z⟩ := hm_z
      rcases sk_202 q313_z with ⟨b314_z, rfl, y315_z⟩ | ⟨b316_z, rfl, y317_z⟩
      · replace y315_z := y315_z.symm
        subst y315_z
        replace b314_z : ¬ ((x >>> (i &&& 31)) &&& 1) = (1 : Int32) ∧ ¬ ((x >>> (i &&& 31)) &&& 1).toInt = (1 : Int32).toInt := b314_z
        replace hm_z : rn _ _ _ _ [.int 0, .int i, .ref 196] _ _ _ := hm_z
        replace hm_z := rn_ifT (am_cur_of (i := (43, 3, .ifCond .eq 7, (28, 0, 0), 0)) (by decide +kernel)) (by decide) hm_z
        replace hm_z := rn_ldc2 (w := 1000000) (am_cur_of (i := (50, 3, .ldc2_w 507, (0, 0, 1966), 1000000)) (by decide +kernel)) (by decide) hm_z
        replace hm_z := rn_aload_n (am_cur_of (i := (53, 1, .aload_n 0, (0, 0, 0), 0)) (by decide +kernel)) g0_z hm_z
        replace hm_z := rn_getR (x := 173) (am_cur_of (i := (54, 3, .getfield 39, (12, 28, 1412), 0)) (by decide +kernel)) (by decide +kernel) hm_z
        replace hm_z := rn_iload_n (am_cur_of (i := (57, 1, .iload_n 3, (0, 0, 0), 0)) (by decide +kernel)) g3_z hm_z
        replace hm_z := rn_iaload (N := 12) (q := i.toNatClampNeg) (v := W i.toNatClampNeg) (am_cur_of (i := (58, 1, .iaload, (0, 0, 0), 0)) (by decide +kernel)) (by decide +kernel) rfl (EW i.toNatClampNeg (by omega)) hm_z
        obtain ⟨p318_z, hm_z⟩ := hm_z
        replace hm_z := rn_i2l (w := (W i.toNatClampNeg).toInt64) (am_cur_of (i := (59, 1, .i2l, (0, 0, 0), 0)) (by decide +kernel)) rfl hm_z
        replace hm_z := rn_lmul (w := 1000000 * ((W i.toNatClampNeg).toInt64)) (am_cur_of (i := (60, 1, .lmul, (0, 0, 0), 0)) (by decide +kernel)) rfl hm_z
        replace hm_z := rn_lastore (N := 6) (q := i.toNatClampNeg) (am_cur_of (i := (61, 1, .lastore, (0, 0, 0), 0)) (by decide +kernel)) (by decide +kernel) rfl hm_z
        obtain ⟨p319_z, hm_z⟩ := hm_z
        replace hm_z := rn_aload_n (am_cur_of (i := (62, 1, .aload_n 0, (0, 0, 0), 0)) (by decide +kernel)) g0_z hm_z
        replace hm_z := rn_getR (x := 197) (am_cur_of (i := (63, 3, .getfield 115, (12, 72, 1456), 0)) (by decide +kernel)) (by decide +kernel) hm_z
        replace hm_z := rn_iload_n (am_cur_of (i := (66, 1, .iload_n 3, (0, 0, 0), 0)) (by decide +kernel)) g3_z hm_z
        replace hm_z := rn_iconst (w := 0) (am_cur_of (i := (67, 1, .iconst 0, (0, 0, 0), 0)) (by decide +kernel)) (by decide) hm_z
        replace hm_z := rn_iastore (N := 6) (q := i.toNatClampNeg) (am_cur_of (i := (68, 1, .iastore, (0, 0, 0), 0)) (by decide +kernel)) (by decide +kernel) rfl hm_z
        obtain ⟨p320_z, hm_z⟩ := hm_z
        replace hm_z := rn_iinc (w := i + 1) (am_cur_of (i := (69, 3, .iinc 3 1, (0, 0, 0), 0)) (by decide +kernel)) g3_z rfl hm_z
        obtain ⟨_, s321_z, s322_z, g3_z, hm_z⟩ := hm_z
        replace g0_z := s321_z 0 _ (by decide) rfl g0_z
        replace g1_z := s321_z 1 _ (by decide) rfl g1_z
        replace g2_z := s321_z 2 _ (by decide) rfl g2_z
        clear s321_z s322_z
        replace hm_z := rn_gotoL (am_cur_of (i := (72, 3, .goto (-50), (14, 0, 0), 0)) (by decide +kernel)) hm_z
        have ab := sj_bit (x := x >>> (i &&& 31))
        have E323 : ∀ n : Nat, (n : Int) < (i + 1).toInt → rg_l (am_up (am_up g 196 i.toNatClampNeg (.long (1000000 * ((W i.toNatClampNeg).toInt64)))) 197 i.toNatClampNeg (.int 0)) 196 n = sk0_z x W n ∧ rg_v (am_up (am_up g 196 i.toNatClampNeg (.long (1000000 * ((W i.toNatClampNeg).toInt64)))) 197 i.toNatClampNeg (.int 0)) 197 n = 0 := by
          intro n hn_z
          by_cases e : n = i.toNatClampNeg
          · subst e
            exact ⟨(((rg_l_other (by omega)).trans (rg_l_self))).trans (Int64.mul_comm _ _).trans (sk0_0 i0_z (ab.resolve_right (b314_z).1)).symm, rg_v_self⟩
          · exact ⟨((rg_l_other (by omega)).trans ((rg_l_other (by omega)).trans (rfl))).trans (E n (by omega)).1, ((rg_v_other (by omega)).trans ((rg_v_other (by omega)).trans (rfl))).trans (E n (by omega)).2⟩
        obtain ⟨l2_z, g2_z', f0_z, f1_z, f2_z, f3_z, f4_z, f5_z⟩ := ih_z (i + 1) _ (am_up (am_up g 196 i.toNatClampNeg (.long (1000000 * ((W i.toNatClampNeg).toInt64)))) 197 i.toNatClampNeg (.int 0)) (((rg_v_other (by omega)).trans ((rg_v_other (by omega)).trans (rfl))).trans ex) (fun n hn_z => ((rg_v_other (by omega)).trans ((rg_v_other (by omega)).trans (rfl))).trans (EW n hn_z)) ((congrArg Int32.toInt ((rg_v_other (by omega)).trans ((rg_v_other (by omega)).trans (rfl)))).trans eL) E323 (by omega) (by omega) g0_z g1_z g2_z g3_z hm_z
        exact ⟨l2_z, g2_z', f0_z, f1_z, f2_z, rn_up (Nat.le_succ _) f3_z, f4_z, fun o k ho => (f5_z o k ho).trans ((up_ne (by omega)).trans ((up_ne (by omega)).trans (rfl)))⟩
      · replace y317_z := y317_z.symm
        subst y317_z
        replace b316_z : ((x >>> (i &&& 31)) &&& 1) = (1 : Int32) ∧ ((x >>> (i &&& 31)) &&& 1).toInt = (1 : Int32).toInt := b316_z
        replace hm_z : rn _ _ _ _ [.int 1, .int i, .ref 196] _ _ _ := hm_z
        replace hm_z := rn_ifF (am_cur_of (i := (43, 3, .ifCond .eq 7, (28, 0, 0), 0)) (by decide +kernel)) (by decide) hm_z
        replace hm_z := rn_lconst (w := 0) (am_cur_of (i := (46, 1, .lconst 0, (0, 0, 0), 0)) (by decide +kernel)) rfl hm_z
        replace hm_z := rn_goto (am_cur_of (i := (47, 3, .goto 14, (35, 0, 0), 0)) (by decide +kernel)) hm_z
        replace hm_z := rn_lastore (N := 6) (q := i.toNatClampNeg) (am_cur_of (i := (61, 1, .lastore, (0, 0, 0), 0)) (by decide +kernel)) (by decide +kernel) rfl hm_z
        obtain ⟨p324_z, hm_z⟩ := hm_z
        replace hm_z := rn_aload_n (am_cur_of (i := (62, 1, .aload_n 0, (0, 0, 0), 0)) (by decide +kernel)) g0_z hm_z
        replace hm_z := rn_getR (x := 197) (am_cur_of (i := (63, 3, .getfield 115, (12, 72, 1456), 0)) (by decide +kernel)) (by decide +kernel) hm_z
        replace hm_z := rn_iload_n (am_cur_of (i := (66, 1, .iload_n 3, (0, 0, 0), 0)) (by decide +kernel)) g3_z hm_z
        replace hm_z := rn_iconst (w := 0) (am_cur_of (i := (67, 1, .iconst 0, (0, 0, 0), 0)) (by decide +kernel)) (by decide) hm_z
        replace hm_z := rn_iastore (N := 6) (q := i.toNatClampNeg) (am_cur_of (i := (68, 1, .iastore, (0, 0, 0), 0)) (by decide +kernel)) (by decide +kernel) rfl hm_z
        obtain ⟨p325_z, hm_z⟩ := hm_z
        replace hm_z := rn_iinc (w := i + 1) (am_cur_of (i := (69, 3, .iinc 3 1, (0, 0, 0), 0)) (by decide +kernel)) g3_z rfl hm_z
        obtain ⟨_, s326_z, s327_z, g3_z, hm_z⟩ := hm_z
        replace g0_z := s326_z 0 _ (by decide) rfl g0_z
        replace g1_z := s326_z 1 _ (by decide) rfl g1_z
        replace g2_z := s326_z 2 _ (by decide) rfl g2_z
        clear s326_z s327_z
        replace hm_z := rn_gotoL (am_cur_of (i := (72, 3, .goto (-50), (14, 0, 0), 0)) (by decide +kernel)) hm_z
        have ab := sj_bit (x := x >>> (i &&& 31))
        have E328 : ∀ n : Nat, (n : Int) < (i + 1).toInt → rg_l (am_up (am_up g 196 i.toNatClampNeg (.long 0)) 197 i.toNatClampNeg (.int 0)) 196 n = sk0_z x W n ∧ rg_v (am_up (am_up g 196 i.toNatClampNeg (.long 0)) 197 i.toNatClampNeg (.int 0)) 197 n = 0 := by
          intro n hn_z
          by_cases e : n = i.toNatClampNeg
          · subst e
            exact ⟨(((rg_l_other (by omega)).trans (rg_l_self))).trans (sk0_1 i0_z (fun q => absurd (b316_z).1 (by rw [q]; decide))).symm, rg_v_self⟩
          · exact ⟨((rg_l_other (by omega)).trans ((rg_l_other (by omega)).trans (rfl))).trans (E n (by omega)).1, ((rg_v_other (by omega)).trans ((rg_v_other (by omega)).trans (rfl))).trans (E n (by omega)).2⟩
        obtain ⟨l2_z, g2_z', f0_z, f1_z, f2_z, f3_z, f4_z, f5_z⟩ := ih_z (i + 1) _ (am_up (am_up g 196 i.toNatClampNeg (.long 0)) 197 i.toNatClampNeg (.int 0)) (((rg_v_other (by omega)).trans ((rg_v_other (by omega)).trans (rfl))).trans ex) (fun n hn_z => ((rg_v_other (by omega)).trans ((rg_v_other (by omega)).trans (rfl))).trans (EW n hn_z)) ((congrArg Int32.toInt ((rg_v_other (by omega)).trans ((rg_v_other (by omega)).trans (rfl)))).trans eL) E328 (by omega) (by omega) g0_z g1_z g2_z g3_z hm_z
        exact ⟨l2_z, g2_z', f0_z, f1_z, f2_z, rn_up (Nat.le_succ _) f3_z, f4_z, fun o k ho => (f5_z o k ho).trans ((up_ne (by omega)).trans ((up_ne (by omega)).trans (rfl)))⟩
theorem sj_233 {n : Nat} {r : Option Value} {g g' : am_H} {kk qq x : Int32} {W fi tm : Nat → Int32} {L T : Nat} (T9 : T ≤ 99) (L9 : L ≤ 99) (L6 : L ≤ 6) (hW : ∀ i, i < L → 0 ≤ (W i).toInt ∧ (W i).toInt ≤ 99) (hf_z : ∀ t, t < T → 1 ≤ (fi t).toInt ∧ (fi t).toInt ≤ 100) (ht : ∀ t, t < T → 1 ≤ (tm t).toInt ∧ (tm t).toInt ≤ 99) (ex : rg_v g 164 57 = x) (EW : ∀ n : Nat, n < L → rg_v g 173 n = W n) (E3 : ∀ t : Nat, t < T → rg_v g 176 t = fi t) (E4 : ∀ t : Nat, t < T → rg_v g 177 t = tm t) (eL : (rg_v g 164 14).toInt = L) (eT : (rg_v g 164 15).toInt = T) (hm_z : rn n am_m233 0 (lv_args 0 [.ref 164, .int kk, .int qq]) [] g r g') : r = some (.int (skR kk qq (skI fi tm L T (kk.toInt.toNat + 1) (sk0_z x W) (fun _ => 0) none))) := by
  have z0_z : (0 : Int32).toInt = 0 := by decide
  have z1_z : (1 : Int32).toInt = 1 := by decide
  have g0_z : am_get (lv_args 0 [.ref 164, .int kk, .int qq]) 0 = some (.ref 164) := rfl
  have g1_z : am_get (lv_args 0 [.ref 164, .int kk, .int qq]) 1 = some (.int kk) := rfl
  have g2_z : am_get (lv_args 0 [.ref 164, .int kk, .int qq]) 2 = some (.int qq) := rfl
  replace hm_z := rn_aload_n (am_cur_of (i := (0, 1, .aload_n 0, (0, 0, 0), 0)) (by decide +kernel)) g0_z hm_z
  replace hm_z := rn_iconst (w := 0) (am_cur_of (i := (1, 1, .iconst 0, (0, 0, 0), 0)) (by decide +kernel)) (by decide) hm_z
  replace hm_z := rn_put (am_cur_of (i := (2, 3, .putfield 139, (12, 2, 1386), 0)) (by decide +kernel)) (by decide +kernel) hm_z
  replace hm_z := rn_iload_n (am_cur_of (i := (5, 1, .iload_n 1, (0, 0, 0), 0)) (by decide +kernel)) g1_z hm_z
  replace hm_z := rn_if (am_cur_of (i := (6, 3, .ifCond .lt 12, (10, 0, 0), 0)) (by decide +kernel)) hm_z
  rcases hm_z with ⟨b329_z, hm_z⟩ | ⟨b329_z, hm_z⟩
  · replace b329_z : kk.toInt < (0 : Int32).toInt := b329_z
    replace hm_z := rn_iconst (w := (-1)) (am_cur_of (i := (18, 1, .iconst (-1), (0, 0, 0), 0)) (by decide +kernel)) (by decide) hm_z
    replace hm_z := rn_iret (am_cur_of (i := (19, 1, .ireturn, (0, 0, 0), 0)) (by decide +kernel)) hm_z
    obtain ⟨e330_z, e331_z⟩ := hm_z
    exact e330_z.trans (congrArg (fun q => some (Value.int q)) (skR_n (by omega)).symm)
  · replace b329_z : (0 : Int32).toInt ≤ kk.toInt := b329_z
    replace hm_z := rn_iload_n (am_cur_of (i := (9, 1, .iload_n 2, (0, 0, 0), 0)) (by decide +kernel)) g2_z hm_z
    replace hm_z := rn_iconst (w := 0) (am_cur_of (i := (10, 1, .iconst 0, (0, 0, 0), 0)) (by decide +kernel)) (by decide) hm_z
    replace hm_z := rn_iconst (w := 1) (am_cur_of (i := (11, 1, .iconst 1, (0, 0, 0), 0)) (by decide +kernel)) (by decide) hm_z
    replace hm_z := rn_callS (M' := am_m162) (ar := [.int 1, .int 0, .int qq]) (rest := []) (L := lv_args 0 [.int qq, .int 0, .int 1]) (am_cur_of (i := (12, 3, .invokestatic 184, (162, 1681, 3), 0)) (by decide +kernel)) rfl rfl rfl rfl hm_z
    obtain ⟨r332_z, h333_z, q334_z, hm_z⟩ := hm_z
    rcases sk_162 q334_z with ⟨b335_z, rfl, y336_z⟩ | ⟨b337_z, b338_z, rfl, y339_z⟩ | ⟨b340_z, b341_z, rfl, y342_z⟩
    · replace y336_z := y336_z.symm
      subst y336_z
      replace b335_z : qq.toInt < (0 : Int32).toInt := b335_z
      replace hm_z : rn _ _ _ _ [.int 0] _ _ _ := hm_z
      replace hm_z := rn_ifF (am_cur_of (i := (15, 3, .ifCond .ne 5, (12, 0, 0), 0)) (by decide +kernel)) (by decide) hm_z
      replace hm_z := rn_iconst (w := (-1)) (am_cur_of (i := (18, 1, .iconst (-1), (0, 0, 0), 0)) (by decide +kernel)) (by decide) hm_z
      replace hm_z := rn_iret (am_cur_of (i := (19, 1, .ireturn, (0, 0, 0), 0)) (by decide +kernel)) hm_z
      obtain ⟨e343_z, e344_z⟩ := hm_z
      exact e343_z.trans (congrArg (fun q => some (Value.int q)) (skR_n (by omega)).symm)
    · replace y339_z := y339_z.symm
      subst y339_z
      replace b337_z : (0 : Int32).toInt ≤ qq.toInt := b337_z
      replace b338_z : (1 : Int32).toInt < qq.toInt := b338_z
      replace hm_z : rn _ _ _ _ [.int 0] _ _ _ := hm_z
      replace hm_z := rn_ifF (am_cur_of (i := (15, 3, .ifCond .ne 5, (12, 0, 0), 0)) (by decide +kernel)) (by decide) hm_z
      replace hm_z := rn_iconst (w := (-1)) (am_cur_of (i := (18, 1, .iconst (-1), (0, 0, 0), 0)) (by decide +kernel)) (by decide) hm_z
      replace hm_z := rn_iret (am_cur_of (i := (19, 1, .ireturn, (0, 0, 0), 0)) (by decide +kernel)) hm_z
      obtain ⟨e345_z, e346_z⟩ := hm_z
      exact e345_z.trans (congrArg (fun q => some (Value.int q)) (skR_n (by omega)).symm)
    · replace y342_z := y342_z.symm
      subst y342_z
      replace b340_z : (0 : Int32).toInt ≤ qq.toInt := b340_z
      replace b341_z : qq.toInt ≤ (1 : Int32).toInt := b341_z
      replace hm_z : rn _ _ _ _ [.int 1] _ _ _ := hm_z
      replace hm_z := rn_ifT (am_cur_of (i := (15, 3, .ifCond .ne 5, (12, 0, 0), 0)) (by decide +kernel)) (by decide) hm_z
      replace hm_z := rn_iconst (w := 0) (am_cur_of (i := (20, 1, .iconst 0, (0, 0, 0), 0)) (by decide +kernel)) (by decide) hm_z
      replace hm_z := rn_istore_n (am_cur_of (i := (21, 1, .istore_n 3, (0, 0, 0), 0)) (by decide +kernel)) hm_z
      obtain ⟨_, s347_z, s348_z, g3_z, hm_z⟩ := hm_z
      replace g0_z := s347_z 0 _ (by decide) rfl g0_z
      replace g1_z := s347_z 1 _ (by decide) rfl g1_z
      replace g2_z := s347_z 2 _ (by decide) rfl g2_z
      clear s347_z s348_z
      obtain ⟨l2_z, g2_z', f0_z, f1_z, f2_z, hm_z, E, ef⟩ := sj_i (g := (am_up g 164 2 (.int 0))) (x := x) (W := W) L9 _ 0 _ (((rg_v_other (by omega)).trans (rfl)).trans ex) (fun n hn_z => ((rg_v_other (by omega)).trans (rfl)).trans (EW n hn_z)) ((congrArg Int32.toInt ((rg_v_other (by omega)).trans (rfl))).trans eL) (fun n hn_z => absurd hn_z (by rw [show (0 : Int32).toInt = 0 by decide]; omega)) (by decide) (by rw [show (0 : Int32).toInt = 0 by decide]; omega) g0_z g1_z g2_z g3_z hm_z
      clear g0_z g1_z g2_z g3_z
      have g0_z := f0_z
      have g1_z := f1_z
      have g2_z := f2_z
      have G := sk0_g (x := x) hW
      have EF : ∀ o k, ¬ (o = 196 ∨ o = 197 ∨ (o = 164 ∧ k = 2)) → rg_v g2_z' o k = rg_v g o k := fun o k ho => (rgv_v (ef o k (by omega))).trans ((rg_v_other (by omega)).trans (rfl))
      have c18_z : ∀ n, skC (fun _ => 0) n = 3 * n := by
        intro n
        induction n with
        | zero => rfl
        | succ n ih_z =>
          show skC (fun _ => 0) n + (3 - (0 : Int32).toInt).toNat = 3 * (n + 1)
          rw [ih_z, show (0 : Int32).toInt = 0 by decide]
          omega
      replace hm_z := rn_bipush (w := (-2)) (am_cur_of (i := (75, 2, .bipush (-2), (0, 0, 0), 0)) (by decide +kernel)) (by decide) hm_z
      replace hm_z := rn_istore_n (am_cur_of (i := (77, 1, .istore_n 3, (0, 0, 0), 0)) (by decide +kernel)) hm_z
      obtain ⟨_, s349_z, s350_z, g3_z, hm_z⟩ := hm_z
      replace g0_z := s349_z 0 _ (by decide) rfl g0_z
      replace g1_z := s349_z 1 _ (by decide) rfl g1_z
      replace g2_z := s349_z 2 _ (by decide) rfl g2_z
      clear s349_z s350_z
      replace hm_z := rn_bipush (w := (-2)) (am_cur_of (i := (78, 2, .bipush (-2), (0, 0, 0), 0)) (by decide +kernel)) (by decide) hm_z
      replace hm_z := rn_istore (am_cur_of (i := (80, 2, .istore 4, (0, 0, 0), 0)) (by decide +kernel)) hm_z
      obtain ⟨_, s351_z, s352_z, g4_z, hm_z⟩ := hm_z
      replace g0_z := s351_z 0 _ (by decide) rfl g0_z
      replace g1_z := s351_z 1 _ (by decide) rfl g1_z
      replace g2_z := s351_z 2 _ (by decide) rfl g2_z
      replace g3_z := s351_z 3 _ (by decide) rfl g3_z
      clear s351_z s352_z
      replace hm_z := rn_iconst (w := 0) (am_cur_of (i := (82, 1, .iconst 0, (0, 0, 0), 0)) (by decide +kernel)) (by decide) hm_z
      replace hm_z := rn_istore (am_cur_of (i := (83, 2, .istore 5, (0, 0, 0), 0)) (by decide +kernel)) hm_z
      obtain ⟨_, s353_z, s354_z, g5_z, hm_z⟩ := hm_z
      replace g0_z := s353_z 0 _ (by decide) rfl g0_z
      replace g1_z := s353_z 1 _ (by decide) rfl g1_z
      replace g2_z := s353_z 2 _ (by decide) rfl g2_z
      replace g3_z := s353_z 3 _ (by decide) rfl g3_z
      replace g4_z := s353_z 4 _ (by decide) rfl g4_z
      clear s353_z s354_z
      exact sj_m ⟨by omega, by omega, by omega⟩ T9 L9 hf_z ht _ (kk.toInt.toNat + 1) 0 _ _ none _ _ G (by rw [c18_z]; omega) (fun n hn_z => (E n hn_z).1) (fun n hn_z => (E n hn_z).2) (fun n hn_z => (EF 176 n (by omega)).trans (E3 n hn_z)) (fun n hn_z => (EF 177 n (by omega)).trans (E4 n hn_z)) ((congrArg Int32.toInt (EF 164 14 (by omega))).trans eL) ((congrArg Int32.toInt (EF 164 15 (by omega))).trans eT) (fun z => by omega) g0_z g1_z g2_z g3_z g4_z g5_z (by decide) (by rw [c18_z, show (0 : Int32).toInt = 0 by decide]; omega) (by rw [show (0 : Int32).toInt = 0 by decide]; omega) hm_z
theorem sk_b2 {t : Int32} {h : am_H} (hG : ag_G t h) : (∀ i, i < 6 → 0 ≤ (rg_v h 6 i).toInt ∧ (rg_v h 6 i).toInt ≤ 99) ∧ ∀ i, i < 3 → (rg_v h 10 i).toInt ≤ 99 := by
  refine ⟨fun i hi_z => ?_, fun i hi_z => ?_⟩
  · obtain ⟨v, e, v0_z, v1_z⟩ := ab_arrI hG.1 (o := 6) (n := 6) (l := 0) (u := 99) (by decide +kernel) (by decide +kernel) (by decide +kernel) hi_z
    unfold rg_v
    rw [e]
    exact ⟨v0_z, v1_z⟩
  · obtain ⟨v, e, v0_z, v1_z⟩ := ab_arrI hG.1 (o := 10) (n := 3) (l := 0) (u := 99) (by decide +kernel) (by decide +kernel) (by decide +kernel) hi_z
    unfold rg_v
    rw [e]
    exact v1_z
theorem sk_pair2 {n n' : Nat} {t : Int32} {h h' g g' : am_H} {r r' : Option Value} {kk q : Int32} (D : h 0 2 = .ref 2) (hG : ag_G t h) (K : rK 2 h g) (V : pv 2 h) (X : rg_v h 48 4 = rg_v g 164 57) (hc_z : rn n am_m115 0 (lv_args 0 [.ref 0, .int kk, .int q]) [] h r h') (hm_z : rn n' am_m233 0 (lv_args 0 [.ref 164, .int kk, .int q]) [] g r' g') : r = r' := by
  obtain ⟨-, -, -, ⟨k9_z, k90_z, k96_z⟩, ⟨k12_z, k120_z, k123_z⟩, -, -, E, F⟩ := K
  obtain ⟨-, -, -, -, -, v6_z, -⟩ := V
  obtain ⟨b1_z, b2_z⟩ := sk_b2 hG
  obtain ⟨L, eL⟩ : ∃ L : Nat, (rg_v h 2 9).toInt = L := ⟨(rg_v h 2 9).toInt.toNat, by omega⟩
  obtain ⟨T, eT⟩ : ∃ T : Nat, (rg_v h 2 12).toInt = T := ⟨(rg_v h 2 12).toInt.toNat, by omega⟩
  have hW : ∀ i, i < L → 0 ≤ (rg_v h 6 i).toInt ∧ (rg_v h 6 i).toInt ≤ 99 := fun i hi_z => b1_z i (by omega)
  have hf_z : ∀ i, i < T → 1 ≤ (rg_v h 9 i).toInt ∧ (rg_v h 9 i).toInt ≤ 100 := fun i hi_z => ⟨(v6_z i (by omega)).1, (v6_z i (by omega)).2.1⟩
  have ht : ∀ i, i < T → 1 ≤ (rg_v h 10 i).toInt ∧ (rg_v h 10 i).toInt ≤ 99 := fun i hi_z => ⟨(v6_z i (by omega)).2.2, b2_z i (by omega)⟩
  have a := sk_115_2 (W := fun i => rg_v h 6 i) (fi := fun i => rg_v h 9 i) (tm := fun i => rg_v h 10 i) D (by omega) (by omega) (by omega) hW hf_z ht rfl (fun _ _ => rfl) (fun _ _ => rfl) (fun _ _ => rfl) eL eT hc_z
  have b := sj_233 (W := fun i => rg_v h 6 i) (fi := fun i => rg_v h 9 i) (tm := fun i => rg_v h 10 i) (by omega) (by omega) (by omega) hW hf_z ht X.symm (fun i hi_z => (E i (by omega)).1.symm) (fun i hi_z => (F i (by omega)).2.1.symm) (fun i hi_z => (F i (by omega)).2.2.symm) (by rw [← k9_z]; exact eL) (by rw [← k12_z]; exact eT) hm_z
  rw [a, b]
theorem sk_b23 {t : Int32} {h : am_H} (hG : ag_G t h) : (∀ i, i < 6 → 0 ≤ (rg_v h 27 i).toInt ∧ (rg_v h 27 i).toInt ≤ 99) ∧ ∀ i, i < 3 → (rg_v h 31 i).toInt ≤ 99 := by
  refine ⟨fun i hi_z => ?_, fun i hi_z => ?_⟩
  · obtain ⟨v, e, v0_z, v1_z⟩ := ab_arrI hG.1 (o := 27) (n := 6) (l := 0) (u := 99) (by decide +kernel) (by decide +kernel) (by decide +kernel) hi_z
    unfold rg_v
    rw [e]
    exact ⟨v0_z, v1_z⟩
  · obtain ⟨v, e, v0_z, v1_z⟩ := ab_arrI hG.1 (o := 31) (n := 3) (l := 0) (u := 99) (by decide +kernel) (by decide +kernel) (by decide +kernel) hi_z
    unfold rg_v
    rw [e]
    exact v1_z
theorem sk_pair23 {n n' : Nat} {t : Int32} {h h' g g' : am_H} {r r' : Option Value} {kk q : Int32} (D : h 0 2 = .ref 23) (hG : ag_G t h) (K : rK 23 h g) (V : pv 23 h) (X : rg_v h 48 4 = rg_v g 164 57) (hc_z : rn n am_m115 0 (lv_args 0 [.ref 0, .int kk, .int q]) [] h r h') (hm_z : rn n' am_m233 0 (lv_args 0 [.ref 164, .int kk, .int q]) [] g r' g') : r = r' := by
  obtain ⟨-, -, -, ⟨k9_z, k90_z, k96_z⟩, ⟨k12_z, k120_z, k123_z⟩, -, -, E, F⟩ := K
  obtain ⟨-, -, -, -, -, v6_z, -⟩ := V
  obtain ⟨b1_z, b2_z⟩ := sk_b23 hG
  obtain ⟨L, eL⟩ : ∃ L : Nat, (rg_v h 23 9).toInt = L := ⟨(rg_v h 23 9).toInt.toNat, by omega⟩
  obtain ⟨T, eT⟩ : ∃ T : Nat, (rg_v h 23 12).toInt = T := ⟨(rg_v h 23 12).toInt.toNat, by omega⟩
  have hW : ∀ i, i < L → 0 ≤ (rg_v h 27 i).toInt ∧ (rg_v h 27 i).toInt ≤ 99 := fun i hi_z => b1_z i (by omega)
  have hf_z : ∀ i, i < T → 1 ≤ (rg_v h 30 i).toInt ∧ (rg_v h 30 i).toInt ≤ 100 := fun i hi_z => ⟨(v6_z i (by omega)).1, (v6_z i (by omega)).2.1⟩
  have ht : ∀ i, i < T → 1 ≤ (rg_v h 31 i).toInt ∧ (rg_v h 31 i).toInt ≤ 99 := fun i hi_z => ⟨(v6_z i (by omega)).2.2, b2_z i (by omega)⟩
  have a := sk_115_23 (W := fun i => rg_v h 27 i) (fi := fun i => rg_v h 30 i) (tm := fun i => rg_v h 31 i) D (by omega) (by omega) (by omega) hW hf_z ht rfl (fun _ _ => rfl) (fun _ _ => rfl) (fun _ _ => rfl) eL eT hc_z
  have b := sj_233 (W := fun i => rg_v h 27 i) (fi := fun i => rg_v h 30 i) (tm := fun i => rg_v h 31 i) (by omega) (by omega) (by omega) hW hf_z ht X.symm (fun i hi_z => (E i (by omega)).1.symm) (fun i hi_z => (F i (by omega)).2.1.symm) (fun i hi_z => (F i (by omega)).2.2.symm) (by rw [← k9_z]; exact eL) (by rw [← k12_z]; exact eT) hm_z
  rw [a, b]
theorem R8_y_seek : ay_seek R8 := by
  intro t a0_z a1_z h h1_z h2_z r1_z r2_z n1_z n2_z hR g0_z g1_z g2_z f1_z f2_z y0_z y1_z
  obtain ⟨p, hp_z, D, K, V, B, S, T⟩ := R8_in hR g0_z (by decide +kernel) f1_z
  have X : rg_v h 48 4 = rg_v h1_z 164 57 := S.1.1 4 (by decide) (by decide)
  rcases hp_z with rfl | rfl
  · exact sk_pair2 D g0_z K V X y0_z y1_z
  · exact sk_pair23 D g0_z K V X y0_z y1_z
