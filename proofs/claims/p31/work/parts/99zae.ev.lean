set_option maxHeartbeats 400000
/-! ===== THE KEPT LAWS ALIKE; WHAT THEY COME TO (wip/r/gen99ske.py) ===== -/
def lU (k p : Nat) (h g : am_H) : Prop := rg_v g 178 k = 0 ∧ (rg_v h (p + 12) k).toInt = 0 ∧ (rg_v h (p + 13) k).toInt = 0 ∧ rg_v h (p + 14) k = 0
/-- a law told: its row in both, its knots, whether it asks load -/
def lT (k p : Nat) (h g : am_H) (f T : Nat) : Prop := rg_v g 178 k = 1 ∧ ((rg_v h (p + 12) k).toInt = (f : Int) ∧ (rg_v h (p + 13) k).toInt = (T : Int)) ∧ ((rg_v g 179 k).toInt = (f : Int) ∧ (rg_v g 180 k).toInt = (T : Int)) ∧ (f < T ∧ T ≤ 64) ∧ lS (fun i => rg_v g 181 i) (fun i => rg_v g 182 i) (fun i => rg_v g 183 i) f (T - f) [T - 1] ∧ (∀ i, f ≤ i → i < T → lq (rg_v h (p + 10) i) (rg_v h (p + 11) i) (rg_v g 181 i) (rg_v g 182 i)) ∧ (rg_v h (p + 14) k = 1 ∨ (rg_v h (p + 14) k = 0 ∧ ∀ i, f ≤ i → i < T → rg_v h (p + 10) i = 1 → ¬ rg_v h (p + 11) i = 0))
def LW (p : Nat) (h g : am_H) : Prop := ∀ k, k < 3 → lU k p h g ∨ ∃ f T, lT k p h g f T
/-- what law k comes to -/
def lawX (p : Nat) (h : am_H) (k : Nat) (N : Nat → Int64) : Option Int := lvR (lvF (fun q => rg_v h (p + 10) q) (fun q => rg_v h (p + 11) q) N (rg_v h (p + 12) k).toNatClampNeg ((rg_v h (p + 13) k).toNatClampNeg - (rg_v h (p + 12) k).toNatClampNeg))
/-- the names as the class holds them -/
def eC (l F R o s b : Int32) : Nat → Int64
  | 0 => l.toInt64
  | 1 => F.toInt64
  | 2 => R.toInt64
  | 3 => o.toInt64
  | 4 => s.toInt64
  | _ + 5 => b.toInt64
theorem eC_b {l F R o s b : Int32} : ∀ q, lB (eC l F R o s b q).toInt
  | 0 => (Int32.toInt_toInt64 l).symm ▸ lB_32 l
  | 1 => (Int32.toInt_toInt64 F).symm ▸ lB_32 F
  | 2 => (Int32.toInt_toInt64 R).symm ▸ lB_32 R
  | 3 => (Int32.toInt_toInt64 o).symm ▸ lB_32 o
  | 4 => (Int32.toInt_toInt64 s).symm ▸ lB_32 s
  | _ + 5 => (Int32.toInt_toInt64 b).symm ▸ lB_32 b
/-- a value brought between 0 and the most; without one -/
def bnd (q : Option Int) (wo mo : Int) : Int := match q with
  | none => wo
  | some z => if z < 0 then 0 else if mo < z then mo else z
theorem bnd_r {q : Option Int} {wo mo : Int} (w0_z : 0 ≤ wo) (w9_z : wo ≤ mo) : 0 ≤ bnd q wo mo ∧ bnd q wo mo ≤ mo := by
  match q with
  | none => exact ⟨w0_z, w9_z⟩
  | some z =>
    show 0 ≤ (if z < 0 then 0 else if mo < z then mo else z) ∧ (if z < 0 then 0 else if mo < z then mo else z) ≤ mo
    split
    · omega
    · split
      · omega
      · omega
/-- the load: 0 where it is left out -/
def ldZ (p : Nat) (h : am_H) (U F R o s : Int32) : Int := if U = 0 then bnd (lawX p h 2 (eC 0 F R o s 0)) 0 99 else 0
def ldX (p : Nat) (h : am_H) (U F R o s : Int32) : Int32 := Int32.ofInt (ldZ p h U F R o s)
theorem ldZ_r {p : Nat} {h : am_H} {U F R o s : Int32} : 0 ≤ ldZ p h U F R o s ∧ ldZ p h U F R o s ≤ 99 := by
  unfold ldZ
  split
  · exact bnd_r (by decide) (by decide)
  · exact ⟨by decide, by decide⟩
theorem ldX_e {p : Nat} {h : am_H} {U F R o s x : Int32} (e : x.toInt = ldZ p h U F R o s) : x = ldX p h U F R o s := by
  have r := ldZ_r (p := p) (h := h) (U := U) (F := F) (R := R) (o := o) (s := s)
  refine Int32.toInt_inj.mp (e.trans ?_)
  unfold ldX
  rw [Int32.toInt_ofInt]
  exact (ab_bm (by omega) (by omega)).symm
theorem lq_n6 {v u : Int32} (h : lq_n v u) : v.toNatClampNeg < 6 ∧ u.toNatClampNeg < 6 := by
  rcases h with ⟨e1_z, e2_z⟩ | ⟨e1_z, e2_z⟩ | ⟨e1_z, e2_z⟩ | ⟨e1_z, e2_z⟩ | ⟨e1_z, e2_z⟩ | ⟨e1_z, e2_z⟩ <;> subst e1_z <;> subst e2_z <;> exact ⟨by decide, by decide⟩
theorem lq_1 {a v b u : Int32} (h : lq a v b u) (e : a = 1) : b = 1 ∧ lq_n v u := by
  rcases h with ⟨a0_z, -⟩ | ⟨-, b1_z, n⟩ | ⟨o, -⟩
  · exact absurd (a0_z.symm.trans e) (by decide)
  · exact ⟨b1_z, n⟩
  · subst e
    unfold lq_o at o
    rcases o with ⟨q, -⟩ | ⟨q, -⟩ | ⟨q, -⟩ | ⟨q, -⟩ | ⟨q, -⟩ | ⟨q, -⟩ | ⟨q, -⟩ | ⟨q, -⟩ | ⟨q, -⟩ | ⟨q, -⟩ | ⟨q, -⟩ | ⟨q, -⟩ | ⟨q, -⟩ | ⟨q, -⟩ <;> exact absurd q (by decide)
theorem lq_b1 {a v b u : Int32} (h : lq a v b u) (e : b = 1) : a = 1 ∧ lq_n v u := by
  rcases h with ⟨-, b0_z, -⟩ | ⟨a1_z, -, n⟩ | ⟨o, n0_z⟩
  · exact absurd (b0_z.symm.trans e) (by decide)
  · exact ⟨a1_z, n⟩
  · subst e
    unfold lq_o at o
    rcases o with ⟨-, q⟩ | ⟨-, q⟩ | ⟨-, q⟩ | ⟨-, q⟩ | ⟨-, q⟩ | ⟨-, q⟩ | ⟨-, q⟩ | ⟨-, q⟩ | ⟨-, q⟩ | ⟨-, q⟩ | ⟨-, q⟩ | ⟨-, q⟩ | ⟨-, q⟩ | ⟨-, q⟩ <;> exact absurd q (by decide)
theorem lvF_N {O V : Nat → Int32} {N N' : Nat → Int64} {f : Nat} : ∀ m, (∀ i, f ≤ i → i < f + m → O i = 1 → (N (V i).toNatClampNeg).toInt = (N' (V i).toNatClampNeg).toInt) → lvF O V N f m = lvF O V N' f m
  | 0, _ => rfl
  | m + 1, e => by
    have i := lvF_N m (fun i a b => e i a (by omega))
    show (match lvF O V N f m with
      | some S => lvS (O (f + m)) (V (f + m)) N S
      | none => none) = (match lvF O V N' f m with
      | some S => lvS (O (f + m)) (V (f + m)) N' S
      | none => none)
    rw [i]
    match lvF O V N' f m with
    | none => rfl
    | some S =>
      show lvS (O (f + m)) (V (f + m)) N S = lvS (O (f + m)) (V (f + m)) N' S
      by_cases c : O (f + m) = 1
      · have q := e (f + m) (by omega) (by omega) c
        rw [c]
        unfold lvS
        rw [q]
      · unfold lvS
        by_cases c0_z : O (f + m) = 0
        · rw [if_pos (Or.inl c0_z), if_pos (Or.inl c0_z), if_pos c0_z, if_pos c0_z]
        · have nc : ¬ (O (f + m) = 0 ∨ O (f + m) = 1) := fun q => q.elim c0_z c
          rw [if_neg nc, if_neg nc]
theorem lvS_b {o v : Int32} {N : Nat → Int64} {S S2 : List Int} (hB : ∀ x ∈ S, lB x) (hN : o = 1 → lB (N v.toNatClampNeg).toInt) (e : lvS o v N S = some S2) : ∀ x ∈ S2, lB x := by
  unfold lvS at e
  by_cases c : o = 0 ∨ o = 1
  · rw [if_pos c] at e
    by_cases l : 64 ≤ S.length
    · rw [if_pos l] at e
      cases e
    · rw [if_neg l] at e
      cases e
      intro x hx_z
      rcases List.mem_cons.mp hx_z with q | q
      · rw [q]
        by_cases c0_z : o = 0
        · rw [if_pos c0_z]
          exact lB_32 v
        · rw [if_neg c0_z]
          exact hN (c.resolve_left c0_z)
      · exact hB x q
  · rw [if_neg c] at e
    by_cases c5_z : o = 5
    · rw [if_pos c5_z] at e
      match S, hB, e with
      | x :: s, hB, e =>
        replace e : some ((if x = 0 then 1 else 0) :: s) = some S2 := e
        cases e
        intro y hy
        rcases List.mem_cons.mp hy with q | q
        · rw [q]
          exact lB_01
        · exact hB y (List.mem_cons_of_mem _ q)
      | [], _, e => cases e
    · rw [if_neg c5_z] at e
      match S, hB, e with
      | [], _, e => cases e
      | [x], _, e => cases e
      | b :: a :: s, hB, e =>
        replace e : (match jZ o a b with
          | some z => some (z :: s)
          | none => none) = some S2 := e
        match j : jZ o a b with
        | none =>
          rw [j] at e
          cases e
        | some z =>
          rw [j] at e
          cases e
          intro y hy
          rcases List.mem_cons.mp hy with q | q
          · rw [q]
            exact jZ_b (hB a (List.mem_cons_of_mem _ (List.mem_cons_self ..))) j
          · exact hB y (List.mem_cons_of_mem _ (List.mem_cons_of_mem _ q))
theorem lvF_b {O V : Nat → Int32} {N : Nat → Int64} {f : Nat} : ∀ (m : Nat) (S : List Int), (∀ i, f ≤ i → i < f + m → O i = 1 → lB (N (V i).toNatClampNeg).toInt) → lvF O V N f m = some S → ∀ x ∈ S, lB x
  | 0, S, _, e => by
    replace e : some [] = some S := e
    cases e
    intro x hx_z
    cases hx_z
  | m + 1, S, hN, e => by
    replace e : (match lvF O V N f m with
      | some S => lvS (O (f + m)) (V (f + m)) N S
      | none => none) = some S := e
    match c : lvF O V N f m with
    | none =>
      rw [c] at e
      cases e
    | some S0 =>
      rw [c] at e
      exact lvS_b (lvF_b m S0 (fun i a b => hN i a (by omega)) c) (hN (f + m) (by omega) (by omega)) e
theorem lvR_b {q : Option (List Int)} {z : Int} (h : ∀ S, q = some S → ∀ x ∈ S, lB x) (e : lvR q = some z) : lB z := by
  match q, h, e with
  | none, _, e => cases e
  | some [], _, e => cases e
  | some [x], h, e =>
    cases e
    exact h _ rfl _ (List.mem_cons_self ..)
  | some (x :: y :: s), _, e => cases e
/-- the rows of a law, told or not -/
theorem LW_r {k p : Nat} {h g : am_H} (L : lU k p h g ∨ ∃ f T, lT k p h g f T) : ∃ f T : Nat, (rg_v h (p + 12) k).toNatClampNeg = f ∧ (rg_v h (p + 13) k).toNatClampNeg = T ∧ (rg_v h (p + 12) k).toInt = (f : Int) ∧ (rg_v h (p + 13) k).toInt = (T : Int) ∧ f ≤ T ∧ T ≤ 64 ∧ (∀ i, f ≤ i → i < T → lq (rg_v h (p + 10) i) (rg_v h (p + 11) i) (rg_v g 181 i) (rg_v g 182 i)) ∧ (rg_v h (p + 14) k = 0 → ∀ i, f ≤ i → i < T → rg_v h (p + 10) i = 1 → ¬ rg_v h (p + 11) i = 0) := by
  rcases L with ⟨-, f0_z, t0_z, a0_z⟩ | ⟨f, T, -, ⟨e1_z, e2_z⟩, -, ⟨l1_z, l2_z⟩, -, q, a⟩
  · have c1_z := rt_cl (x := rg_v h (p + 12) k) (by omega)
    have c2_z := rt_cl (x := rg_v h (p + 13) k) (by omega)
    exact ⟨0, 0, by omega, by omega, f0_z, t0_z, Nat.le_refl 0, by decide, fun i _ b => absurd b (by omega), fun _ i _ b => absurd b (by omega)⟩
  · have c1_z := rt_cl (x := rg_v h (p + 12) k) (by omega)
    have c2_z := rt_cl (x := rg_v h (p + 13) k) (by omega)
    refine ⟨f, T, by omega, by omega, e1_z, e2_z, by omega, l2_z, q, fun z => ?_⟩
    rcases a with a | ⟨-, a⟩
    · exact absurd (a.symm.trans z) (by decide)
    · exact a
theorem lawX_N {k p : Nat} {h g : am_H} {N N' : Nat → Int64} (L : lU k p h g ∨ ∃ f T, lT k p h g f T) (e0_z : rg_v h (p + 14) k = 0 ∨ (N 0).toInt = (N' 0).toInt) (e : ∀ q, 1 ≤ q → q < 6 → (N q).toInt = (N' q).toInt) : lawX p h k N = lawX p h k N' := by
  obtain ⟨f, T, c1_z, c2_z, -, -, -, -, lqs, ask⟩ := LW_r L
  unfold lawX
  rw [c1_z, c2_z]
  refine congrArg lvR (lvF_N (T - f) (fun i a b o1_z => ?_))
  obtain ⟨-, n⟩ := lq_1 (lqs i a (by omega)) o1_z
  have n6_z := (lq_n6 n).1
  by_cases c : (rg_v h (p + 11) i).toNatClampNeg = 0
  · rcases e0_z with e0_z | e0_z
    · exfalso
      refine ask e0_z i a (by omega) o1_z ?_
      rcases n with ⟨v, -⟩ | ⟨v, -⟩ | ⟨v, -⟩ | ⟨v, -⟩ | ⟨v, -⟩ | ⟨v, -⟩
      · exact v
      · rw [v] at c; exact absurd c (by decide)
      · rw [v] at c; exact absurd c (by decide)
      · rw [v] at c; exact absurd c (by decide)
      · rw [v] at c; exact absurd c (by decide)
      · rw [v] at c; exact absurd c (by decide)
    · rw [c]
      exact e0_z
  · exact e _ (by omega) n6_z
theorem lawX_b {k p : Nat} {h g : am_H} {N : Nat → Int64} (L : lU k p h g ∨ ∃ f T, lT k p h g f T) (hN : ∀ q, q < 6 → lB (N q).toInt) {z : Int} (e : lawX p h k N = some z) : lB z := by
  obtain ⟨f, T, c1_z, c2_z, -, -, -, -, lqs, -⟩ := LW_r L
  unfold lawX at e
  rw [c1_z, c2_z] at e
  exact lvR_b (fun S eS => lvF_b (T - f) S (fun i a b o1_z => hN _ (lq_n6 (lq_1 (lqs i a (by omega)) o1_z).2).1) eS) e
/-- what the class's rows say stays -/
theorem lawX_e {k p : Nat} {h h' : am_H} {N : Nat → Int64} (e : ∀ o q, p + 10 ≤ o → o ≤ p + 13 → rg_v h' o q = rg_v h o q) : lawX p h' k N = lawX p h k N := by
  unfold lawX
  rw [show (fun q => rg_v h' (p + 10) q) = (fun q => rg_v h (p + 10) q) from funext (fun q => e _ q (by omega) (by omega)), show (fun q => rg_v h' (p + 11) q) = (fun q => rg_v h (p + 11) q) from funext (fun q => e _ q (by omega) (by omega)), e (p + 12) k (by omega) (by omega), e (p + 13) k (by omega) (by omega)]
/-- what stays in both so that the kept laws stay -/
def lwQ (o q : Nat) : Prop := (178 ≤ o ∧ o ≤ 180 ∧ q < 3) ∨ (181 ≤ o ∧ o ≤ 183 ∧ q < 64)
theorem lS_e {K A B K' A' B' : Nat → Int32} {f : Nat} : ∀ (m : Nat) (hs_z : List Nat), (∀ i, i < f + m → K' i = K i ∧ A' i = A i ∧ B' i = B i) → lS K A B f m hs_z → lS K' A' B' f m hs_z
  | 0, _, _, h => h
  | m + 1, hs_z, e, h => by
    obtain ⟨h0_z, h1_z, h2_z⟩ := h
    obtain ⟨e1_z, e2_z, e3_z⟩ := e (f + m) (by omega)
    refine ⟨h0_z, lS_e m h0_z (fun i hi_z => e i (by omega)) h1_z, ?_⟩
    rw [e1_z, e2_z, e3_z]
    exact h2_z
theorem LW_e {p : Nat} {h h' g g' : am_H} (c : ∀ o q, p + 10 ≤ o → o ≤ p + 14 → rg_v h' o q = rg_v h o q) (m : ∀ o q, lwQ o q → rg_v g' o q = rg_v g o q) (L : LW p h g) : LW p h' g' := by
  intro k hk_z
  rcases L k hk_z with ⟨u1_z, u2_z, u3_z, u4_z⟩ | ⟨f, T, t1_z, ⟨t2_z, t3_z⟩, ⟨t4_z, t5_z⟩, ⟨t6_z, t7_z⟩, t8_z, t9_z, t10_z⟩
  · refine Or.inl ⟨?_, ?_, ?_, ?_⟩
    · rw [m 178 k (by unfold lwQ; omega)]; exact u1_z
    · rw [c _ _ (by omega) (by omega)]; exact u2_z
    · rw [c _ _ (by omega) (by omega)]; exact u3_z
    · rw [c _ _ (by omega) (by omega)]; exact u4_z
  · refine Or.inr ⟨f, T, ?_, ⟨?_, ?_⟩, ⟨?_, ?_⟩, ⟨t6_z, t7_z⟩, ?_, fun i a b => ?_, ?_⟩
    · rw [m 178 k (by unfold lwQ; omega)]; exact t1_z
    · rw [c _ _ (by omega) (by omega)]; exact t2_z
    · rw [c _ _ (by omega) (by omega)]; exact t3_z
    · rw [m 179 k (by unfold lwQ; omega)]; exact t4_z
    · rw [m 180 k (by unfold lwQ; omega)]; exact t5_z
    · exact lS_e (T - f) [T - 1] (fun i hi_z => ⟨m 181 i (by unfold lwQ; omega), m 182 i (by unfold lwQ; omega), m 183 i (by unfold lwQ; omega)⟩) t8_z
    · rw [c (p + 10) i (by omega) (by omega), c (p + 11) i (by omega) (by omega), m 181 i (by unfold lwQ; omega), m 182 i (by unfold lwQ; omega)]
      exact t9_z i a b
    · rw [c (p + 14) k (by omega) (by omega)]
      rcases t10_z with a | ⟨a, b⟩
      · exact Or.inl a
      · refine Or.inr ⟨a, fun i i0_z i1_z => ?_⟩
        rw [c (p + 10) i (by omega) (by omega), c (p + 11) i (by omega) (by omega)]
        exact b i i0_z i1_z
theorem vw_66_2 {n : Nat} {r : Option Value} {h h' g : am_H} {kd : Int32} (L : lU kd.toNatClampNeg 2 h g ∨ ∃ f T, lT kd.toNatClampNeg 2 h g f T) (hN : ∀ q, q < 6 → lB (rg_l h 17 q).toInt) (hc_z : rn n am_m66 0 (lv_args 0 [.ref 11, .int kd]) [] h r h') : ∃ w : Int64, r = some (.long w) ∧ lR (lawX 2 h kd.toNatClampNeg (fun q => rg_l h 17 q)) w.toInt ∧ ∀ o k, ¬ o = 18 → h' o k = h o k := by
  obtain ⟨f, T, c1_z, c2_z, e1_z, e2_z, fT, T6, lqs, -⟩ := LW_r L
  have q := vo_66_2 (O := fun q => rg_v h 12 q) (V := fun q => rg_v h 13 q) (N := fun q => rg_l h 17 q) e2_z (fun i a b o1_z => hN _ (lq_n6 (lq_1 (lqs i a b) o1_z).2).1) (by omega) e1_z (fun _ => rfl) (fun _ => rfl) (fun _ => rfl) rfl hc_z
  unfold lawX
  rw [c1_z, c2_z]
  exact q
theorem vw_66_23 {n : Nat} {r : Option Value} {h h' g : am_H} {kd : Int32} (L : lU kd.toNatClampNeg 23 h g ∨ ∃ f T, lT kd.toNatClampNeg 23 h g f T) (hN : ∀ q, q < 6 → lB (rg_l h 38 q).toInt) (hc_z : rn n am_m66 0 (lv_args 0 [.ref 32, .int kd]) [] h r h') : ∃ w : Int64, r = some (.long w) ∧ lR (lawX 23 h kd.toNatClampNeg (fun q => rg_l h 38 q)) w.toInt ∧ ∀ o k, ¬ o = 39 → h' o k = h o k := by
  obtain ⟨f, T, c1_z, c2_z, e1_z, e2_z, fT, T6, lqs, -⟩ := LW_r L
  have q := vo_66_23 (O := fun q => rg_v h 33 q) (V := fun q => rg_v h 34 q) (N := fun q => rg_l h 38 q) e2_z (fun i a b o1_z => hN _ (lq_n6 (lq_1 (lqs i a b) o1_z).2).1) (by omega) e1_z (fun _ => rfl) (fun _ => rfl) (fun _ => rfl) rfl hc_z
  unfold lawX
  rw [c1_z, c2_z]
  exact q
theorem wi_68 {n : Nat} {r : Option Value} {h h' : am_H} {v : Int64} {mo wo : Int32} {q : Option Int} (hq_z : lR q v.toInt) (hb_z : ∀ z, q = some z → lB z) (m0_z : 0 ≤ mo.toInt) (hc_z : rn n am_m68 0 (lv_args 0 [.long v, .int mo, .int wo]) [] h r h') : ∃ x : Int32, r = some (.int x) ∧ h' = h ∧ x.toInt = bnd q wo.toInt mo.toInt := by
  have z0_z : (0 : Int32).toInt = 0 := by decide
  have zM := lw_M
  have zm := lw_m
  have zz := lw_z
  have zE := lw_E
  have e64_z : mo.toInt64.toInt = mo.toInt := Int32.toInt_toInt64 mo
  have g0_z : am_get (lv_args 0 [.long v, .int mo, .int wo]) 0 = some (.long v) := rfl
  have g2_z : am_get (lv_args 0 [.long v, .int mo, .int wo]) 2 = some (.int mo) := rfl
  have g3_z : am_get (lv_args 0 [.long v, .int mo, .int wo]) 3 = some (.int wo) := rfl
  replace hc_z := rn_lload_n (am_cur_of (i := (0, 1, .lload_n 0, (0, 0, 0), 0)) (by decide +kernel)) g0_z hc_z
  replace hc_z := rn_ldc2 (w := (-9223372036854775808)) (am_cur_of (i := (1, 3, .ldc2_w 84, (0, 0, 938), (-9223372036854775808))) (by decide +kernel)) (by decide) hc_z
  replace hc_z := rn_lcmp (w := lg_cmp v (-9223372036854775808)) (am_cur_of (i := (4, 1, .lcmp, (0, 0, 0), 0)) (by decide +kernel)) rfl hc_z
  replace hc_z := rn_if (am_cur_of (i := (5, 3, .ifCond .ne 5, (6, 0, 0), 0)) (by decide +kernel)) hc_z
  rcases hc_z with ⟨b1_z, hc_z⟩ | ⟨b1_z, hc_z⟩
  · replace b1_z : ¬ (lg_cmp v (-9223372036854775808)) = (0 : Int32) ∧ ¬ (lg_cmp v (-9223372036854775808)).toInt = (0 : Int32).toInt := b1_z
    replace b1_z := lgc_ne b1_z
    replace hc_z := rn_lload_n (am_cur_of (i := (10, 1, .lload_n 0, (0, 0, 0), 0)) (by decide +kernel)) g0_z hc_z
    replace hc_z := rn_lconst (w := 0) (am_cur_of (i := (11, 1, .lconst 0, (0, 0, 0), 0)) (by decide +kernel)) rfl hc_z
    replace hc_z := rn_lcmp (w := lg_cmp v 0) (am_cur_of (i := (12, 1, .lcmp, (0, 0, 0), 0)) (by decide +kernel)) rfl hc_z
    replace hc_z := rn_if (am_cur_of (i := (13, 3, .ifCond .ge 5, (12, 0, 0), 0)) (by decide +kernel)) hc_z
    rcases hc_z with ⟨b2_z, hc_z⟩ | ⟨b2_z, hc_z⟩
    · replace b2_z : (0 : Int32).toInt ≤ (lg_cmp v 0).toInt := b2_z
      replace b2_z := lgc_ge b2_z
      replace hc_z := rn_lload_n (am_cur_of (i := (18, 1, .lload_n 0, (0, 0, 0), 0)) (by decide +kernel)) g0_z hc_z
      replace hc_z := rn_iload_n (am_cur_of (i := (19, 1, .iload_n 2, (0, 0, 0), 0)) (by decide +kernel)) g2_z hc_z
      replace hc_z := rn_i2l (w := mo.toInt64) (am_cur_of (i := (20, 1, .i2l, (0, 0, 0), 0)) (by decide +kernel)) rfl hc_z
      replace hc_z := rn_lcmp (w := lg_cmp v mo.toInt64) (am_cur_of (i := (21, 1, .lcmp, (0, 0, 0), 0)) (by decide +kernel)) rfl hc_z
      replace hc_z := rn_if (am_cur_of (i := (22, 3, .ifCond .le 7, (19, 0, 0), 0)) (by decide +kernel)) hc_z
      rcases hc_z with ⟨b3_z, hc_z⟩ | ⟨b3_z, hc_z⟩
      · replace b3_z : (lg_cmp v mo.toInt64).toInt ≤ (0 : Int32).toInt := b3_z
        replace b3_z := lgc_le b3_z
        replace hc_z := rn_lload_n (am_cur_of (i := (29, 1, .lload_n 0, (0, 0, 0), 0)) (by decide +kernel)) g0_z hc_z
        replace hc_z := rn_l2i (w := v.toInt32) (am_cur_of (i := (30, 1, .l2i, (0, 0, 0), 0)) (by decide +kernel)) rfl hc_z
        replace hc_z := rn_iret (am_cur_of (i := (31, 1, .ireturn, (0, 0, 0), 0)) (by decide +kernel)) hc_z
        obtain ⟨e4_z, e5_z⟩ := hc_z
        refine ⟨_, e4_z, e5_z, ?_⟩
        match q, hq_z, hb_z with
        | none, hq_z, _ =>
          have e : v.toInt = -9223372036854775808 := hq_z
          exfalso
          omega
        | some z, hq_z, hb_z =>
          have e : v.toInt = z := hq_z
          have bz := hb_z z rfl
          unfold lB at bz
          show _ = if z < 0 then 0 else if mo.toInt < z then mo.toInt else z
          have m9_z := ab_32 mo
          rw [if_neg (by omega), if_neg (by omega), lk_to32 (by omega) (by omega)]
          exact e
      · replace b3_z : (0 : Int32).toInt < (lg_cmp v mo.toInt64).toInt := b3_z
        replace b3_z := lgc_gt b3_z
        replace hc_z := rn_iload_n (am_cur_of (i := (25, 1, .iload_n 2, (0, 0, 0), 0)) (by decide +kernel)) g2_z hc_z
        replace hc_z := rn_goto (am_cur_of (i := (26, 3, .goto 5, (21, 0, 0), 0)) (by decide +kernel)) hc_z
        replace hc_z := rn_iret (am_cur_of (i := (31, 1, .ireturn, (0, 0, 0), 0)) (by decide +kernel)) hc_z
        obtain ⟨e6_z, e7_z⟩ := hc_z
        refine ⟨_, e6_z, e7_z, ?_⟩
        match q, hq_z, hb_z with
        | none, hq_z, _ =>
          have e : v.toInt = -9223372036854775808 := hq_z
          exfalso
          omega
        | some z, hq_z, hb_z =>
          have e : v.toInt = z := hq_z
          have bz := hb_z z rfl
          unfold lB at bz
          show _ = if z < 0 then 0 else if mo.toInt < z then mo.toInt else z
          rw [if_neg (by omega), if_pos (by omega)]
    · replace b2_z : (lg_cmp v 0).toInt < (0 : Int32).toInt := b2_z
      replace b2_z := lgc_lt b2_z
      replace hc_z := rn_iconst (w := 0) (am_cur_of (i := (16, 1, .iconst 0, (0, 0, 0), 0)) (by decide +kernel)) (by decide) hc_z
      replace hc_z := rn_iret (am_cur_of (i := (17, 1, .ireturn, (0, 0, 0), 0)) (by decide +kernel)) hc_z
      obtain ⟨e8_z, e9_z⟩ := hc_z
      refine ⟨_, e8_z, e9_z, ?_⟩
      match q, hq_z, hb_z with
      | none, hq_z, _ =>
        have e : v.toInt = -9223372036854775808 := hq_z
        exfalso
        omega
      | some z, hq_z, hb_z =>
        have e : v.toInt = z := hq_z
        have bz := hb_z z rfl
        unfold lB at bz
        show _ = if z < 0 then 0 else if mo.toInt < z then mo.toInt else z
        rw [if_pos (by omega)]
        decide
  · replace b1_z : (lg_cmp v (-9223372036854775808)) = (0 : Int32) ∧ (lg_cmp v (-9223372036854775808)).toInt = (0 : Int32).toInt := b1_z
    replace b1_z := lgc_eq b1_z
    replace hc_z := rn_iload_n (am_cur_of (i := (8, 1, .iload_n 3, (0, 0, 0), 0)) (by decide +kernel)) g3_z hc_z
    replace hc_z := rn_iret (am_cur_of (i := (9, 1, .ireturn, (0, 0, 0), 0)) (by decide +kernel)) hc_z
    obtain ⟨e10_z, e11_z⟩ := hc_z
    refine ⟨_, e10_z, e11_z, ?_⟩
    match q, hq_z, hb_z with
    | none, _, _ => rfl
    | some z, hq_z, hb_z =>
      have e : v.toInt = z := hq_z
      have bz := hb_z z rfl
      unfold lB at bz
      exfalso
      omega
theorem bw_190 {n p : Nat} {r : Option Value} {h g g' : am_H} {kd wo mo : Int32} {N : Nat → Int64} (L : lU kd.toNatClampNeg p h g ∨ ∃ f T, lT kd.toNatClampNeg p h g f T) (hMb : ∀ q, q < 6 → lB (rg_l g 186 q).toInt) (al0_z : rg_v h (p + 14) kd.toNatClampNeg = 0 ∨ (N (0 : Int32).toNatClampNeg).toInt = (rg_l g 186 (3 : Int32).toNatClampNeg).toInt) (al : ∀ v u, lq_n v u → ¬ v = 0 → (N v.toNatClampNeg).toInt = (rg_l g 186 u.toNatClampNeg).toInt) (m0_z : 0 ≤ mo.toInt) (hm_z : rn n am_m190 0 (lv_args 0 [.ref 164, .int kd, .int wo, .int mo]) [] g r g') : ∃ x : Int32, r = some (.int x) ∧ x.toInt = bnd (lawX p h kd.toNatClampNeg N) wo.toInt mo.toInt ∧ ∀ o q, ¬ (o = 164 ∧ q = 49) → ¬ o = 187 → g' o q = g o q := by
  have z0_z : (0 : Int32).toInt = 0 := by decide
  have zM := lw_M
  have zm := lw_m
  have zz := lw_z
  have zE := lw_E
  have e64_z : mo.toInt64.toInt = mo.toInt := Int32.toInt_toInt64 mo
  have g0_z : am_get (lv_args 0 [.ref 164, .int kd, .int wo, .int mo]) 0 = some (.ref 164) := rfl
  have g1_z : am_get (lv_args 0 [.ref 164, .int kd, .int wo, .int mo]) 1 = some (.int kd) := rfl
  have g2_z : am_get (lv_args 0 [.ref 164, .int kd, .int wo, .int mo]) 2 = some (.int wo) := rfl
  have g3_z : am_get (lv_args 0 [.ref 164, .int kd, .int wo, .int mo]) 3 = some (.int mo) := rfl
  replace hm_z := rn_aload_n (am_cur_of (i := (0, 1, .aload_n 0, (0, 0, 0), 0)) (by decide +kernel)) g0_z hm_z
  replace hm_z := rn_getR (x := 178) (am_cur_of (i := (1, 3, .getfield 54, (12, 33, 1417), 0)) (by decide +kernel)) (by decide +kernel) hm_z
  replace hm_z := rn_iload_n (am_cur_of (i := (4, 1, .iload_n 1, (0, 0, 0), 0)) (by decide +kernel)) g1_z hm_z
  replace hm_z := rn_baload (N := 6) (q := kd.toNatClampNeg) (v := rg_v g 178 kd.toNatClampNeg) (am_cur_of (i := (5, 1, .baload, (0, 0, 0), 0)) (by decide +kernel)) (by decide +kernel) rfl rfl hm_z
  obtain ⟨p12_z, hm_z⟩ := hm_z
  replace hm_z := rn_if (am_cur_of (i := (6, 3, .ifCond .ne 5, (7, 0, 0), 0)) (by decide +kernel)) hm_z
  rcases hm_z with ⟨b13_z, hm_z⟩ | ⟨b13_z, hm_z⟩
  · replace b13_z : ¬ (rg_v g 178 kd.toNatClampNeg) = (0 : Int32) ∧ ¬ (rg_v g 178 kd.toNatClampNeg).toInt = (0 : Int32).toInt := b13_z
    replace hm_z := rn_aload_n (am_cur_of (i := (11, 1, .aload_n 0, (0, 0, 0), 0)) (by decide +kernel)) g0_z hm_z
    replace hm_z := rn_iload_n (am_cur_of (i := (12, 1, .iload_n 1, (0, 0, 0), 0)) (by decide +kernel)) g1_z hm_z
    replace hm_z := rn_callV (M' := am_m191) (o := 164) (ar := [.int kd]) (rest := []) (L := lv_args 0 [.ref 164, .int kd]) (am_cur_of (i := (13, 3, .invokevirtual 389, (191, 1795, 3), 0)) (by decide +kernel)) rfl rfl rfl rfl hm_z
    obtain ⟨r14_z, h15_z, q16_z, hm_z⟩ := hm_z
    rcases L with ⟨u1_z, -⟩ | ⟨f, T, t1_z, ⟨t2_z, t3_z⟩, ⟨t4_z, t5_z⟩, ⟨t6_z, t7_z⟩, t8_z, t9_z, t10_z⟩
    · exact absurd u1_z b13_z.1
    have c1_z := rt_cl (x := rg_v h (p + 12) kd.toNatClampNeg) (by omega)
    have c2_z := rt_cl (x := rg_v h (p + 13) kd.toNatClampNeg) (by omega)
    have c3_z : (rg_v h (p + 12) kd.toNatClampNeg).toNatClampNeg = f := by omega
    have c4_z : (rg_v h (p + 13) kd.toNatClampNeg).toNatClampNeg = T := by omega
    have hP := lS_P (T - f) [T - 1] t8_z
    rw [show f + (T - f) = T by omega] at hP
    have hM : ∀ i, f ≤ i → i < T → rg_v g 181 i = 1 → lB (rg_l g 186 (rg_v g 182 i).toNatClampNeg).toInt := fun i a b k1_z => hMb _ (lq_n6 (lq_b1 (t9_z i a b) k1_z).2).2
    obtain ⟨wx, rr, fx, xx⟩ := lo_191 (K := fun q => rg_v g 181 q) (A := fun q => rg_v g 182 q) (B := fun q => rg_v g 183 q) (M := fun q => rg_l g 186 q) t5_z t6_z hM hP t4_z (fun _ => rfl) (fun _ => rfl) (fun _ => rfl) (fun _ => rfl) rfl q16_z
    subst rr
    have hNM : ∀ i, f ≤ i → i < T → rg_v h (p + 10) i = 1 → (N (rg_v h (p + 11) i).toNatClampNeg).toInt = (rg_l g 186 (rg_v g 182 i).toNatClampNeg).toInt := by
      intro i a b o1_z
      obtain ⟨-, n⟩ := lq_1 (t9_z i a b) o1_z
      by_cases v0_z : rg_v h (p + 11) i = 0
      · have u3_z : rg_v g 182 i = 3 := by
          rcases n with ⟨-, u⟩ | ⟨v, -⟩ | ⟨v, -⟩ | ⟨v, -⟩ | ⟨v, -⟩ | ⟨v, -⟩
          · exact u
          · exact absurd (v.symm.trans v0_z) (by decide)
          · exact absurd (v.symm.trans v0_z) (by decide)
          · exact absurd (v.symm.trans v0_z) (by decide)
          · exact absurd (v.symm.trans v0_z) (by decide)
          · exact absurd (v.symm.trans v0_z) (by decide)
        rcases al0_z with al0_z | al0_z
        · rcases t10_z with t | ⟨-, t⟩
          · exact absurd (t.symm.trans al0_z) (by decide)
          · exact absurd v0_z (t i a b o1_z)
        · rw [v0_z, u3_z]
          exact al0_z
      · exact al _ _ n v0_z
    have ev_z := ev_val (O := fun q => rg_v h (p + 10) q) (V := fun q => rg_v h (p + 11) q) (N := N) (M := fun q => rg_l g 186 q) (V0 := fun j => (rg_l g 187 j).toInt) t6_z t7_z t9_z hNM t8_z
    have eX : lawX p h kd.toNatClampNeg N = lvR (lvF (fun q => rg_v h (p + 10) q) (fun q => rg_v h (p + 11) q) N f (T - f)) := by
      unfold lawX
      rw [c3_z, c4_z]
    rw [← eX] at ev_z
    replace hm_z : rn _ _ _ _ [.long wx] _ _ _ := hm_z
    replace hm_z := rn_lstore (am_cur_of (i := (16, 2, .lstore 4, (0, 0, 0), 0)) (by decide +kernel)) hm_z
    obtain ⟨_, s17_z, s18_z, g4_z, hm_z⟩ := hm_z
    replace g0_z := s17_z 0 _ (by decide) (by decide) rfl g0_z
    replace g1_z := s17_z 1 _ (by decide) (by decide) rfl g1_z
    replace g2_z := s17_z 2 _ (by decide) (by decide) rfl g2_z
    replace g3_z := s17_z 3 _ (by decide) (by decide) rfl g3_z
    clear s17_z s18_z
    replace hm_z := rn_aload_n (am_cur_of (i := (18, 1, .aload_n 0, (0, 0, 0), 0)) (by decide +kernel)) g0_z hm_z
    replace hm_z := rn_getI (v := rg_v h15_z 164 49) (am_cur_of (i := (19, 3, .getfield 327, (12, 49, 1433), 0)) (by decide +kernel)) (by decide +kernel) rfl hm_z
    replace hm_z := rn_if (am_cur_of (i := (22, 3, .ifCond .eq 5, (16, 0, 0), 0)) (by decide +kernel)) hm_z
    rcases hm_z with ⟨b19_z, hm_z⟩ | ⟨b19_z, hm_z⟩
    · replace b19_z : (rg_v h15_z 164 49) = (0 : Int32) ∧ (rg_v h15_z 164 49).toInt = (0 : Int32).toInt := b19_z
      replace hm_z := rn_lload (am_cur_of (i := (27, 2, .lload 4, (0, 0, 0), 0)) (by decide +kernel)) g4_z hm_z
      replace hm_z := rn_lconst (w := 0) (am_cur_of (i := (29, 1, .lconst 0, (0, 0, 0), 0)) (by decide +kernel)) rfl hm_z
      replace hm_z := rn_lcmp (w := lg_cmp wx 0) (am_cur_of (i := (30, 1, .lcmp, (0, 0, 0), 0)) (by decide +kernel)) rfl hm_z
      replace hm_z := rn_if (am_cur_of (i := (31, 3, .ifCond .ge 7, (22, 0, 0), 0)) (by decide +kernel)) hm_z
      rcases hm_z with ⟨b20_z, hm_z⟩ | ⟨b20_z, hm_z⟩
      · replace b20_z : (0 : Int32).toInt ≤ (lg_cmp wx 0).toInt := b20_z
        replace b20_z := lgc_ge b20_z
        replace hm_z := rn_lload (am_cur_of (i := (38, 2, .lload 4, (0, 0, 0), 0)) (by decide +kernel)) g4_z hm_z
        replace hm_z := rn_iload_n (am_cur_of (i := (40, 1, .iload_n 3, (0, 0, 0), 0)) (by decide +kernel)) g3_z hm_z
        replace hm_z := rn_i2l (w := mo.toInt64) (am_cur_of (i := (41, 1, .i2l, (0, 0, 0), 0)) (by decide +kernel)) rfl hm_z
        replace hm_z := rn_lcmp (w := lg_cmp wx mo.toInt64) (am_cur_of (i := (42, 1, .lcmp, (0, 0, 0), 0)) (by decide +kernel)) rfl hm_z
        replace hm_z := rn_if (am_cur_of (i := (43, 3, .ifCond .le 7, (29, 0, 0), 0)) (by decide +kernel)) hm_z
        rcases hm_z with ⟨b21_z, hm_z⟩ | ⟨b21_z, hm_z⟩
        · replace b21_z : (lg_cmp wx mo.toInt64).toInt ≤ (0 : Int32).toInt := b21_z
          replace b21_z := lgc_le b21_z
          replace hm_z := rn_lload (am_cur_of (i := (50, 2, .lload 4, (0, 0, 0), 0)) (by decide +kernel)) g4_z hm_z
          replace hm_z := rn_l2i (w := wx.toInt32) (am_cur_of (i := (52, 1, .l2i, (0, 0, 0), 0)) (by decide +kernel)) rfl hm_z
          replace hm_z := rn_iret (am_cur_of (i := (53, 1, .ireturn, (0, 0, 0), 0)) (by decide +kernel)) hm_z
          obtain ⟨e22_z, e23_z⟩ := hm_z
          refine ⟨_, e22_z, ?_, fun o q a_ b_ => by rw [e23_z]; exact fx o q a_ b_⟩
          rcases xx with ⟨W, x1_z, -, x3_z⟩ | ⟨-, x0_z⟩
          · rcases ev_z with ⟨-, v2_z⟩ | ⟨W2, v1_z, v2_z⟩
            · exact absurd (x1_z.symm.trans v2_z) (by intro z; cases z)
            · have eW : W = W2 := Option.some.inj (x1_z.symm.trans v2_z)
              rw [v1_z, ← eW]
              show _ = if W (T - 1) < 0 then 0 else if mo.toInt < W (T - 1) then mo.toInt else W (T - 1)
              have m9_z := ab_32 mo
              rw [if_neg (by omega), if_neg (by omega), lk_to32 (by omega) (by omega)]
              exact x3_z
          · exact absurd b19_z.1 x0_z
        · replace b21_z : (0 : Int32).toInt < (lg_cmp wx mo.toInt64).toInt := b21_z
          replace b21_z := lgc_gt b21_z
          replace hm_z := rn_iload_n (am_cur_of (i := (46, 1, .iload_n 3, (0, 0, 0), 0)) (by decide +kernel)) g3_z hm_z
          replace hm_z := rn_goto (am_cur_of (i := (47, 3, .goto 6, (31, 0, 0), 0)) (by decide +kernel)) hm_z
          replace hm_z := rn_iret (am_cur_of (i := (53, 1, .ireturn, (0, 0, 0), 0)) (by decide +kernel)) hm_z
          obtain ⟨e24_z, e25_z⟩ := hm_z
          refine ⟨_, e24_z, ?_, fun o q a_ b_ => by rw [e25_z]; exact fx o q a_ b_⟩
          rcases xx with ⟨W, x1_z, -, x3_z⟩ | ⟨-, x0_z⟩
          · rcases ev_z with ⟨-, v2_z⟩ | ⟨W2, v1_z, v2_z⟩
            · exact absurd (x1_z.symm.trans v2_z) (by intro z; cases z)
            · have eW : W = W2 := Option.some.inj (x1_z.symm.trans v2_z)
              rw [v1_z, ← eW]
              show _ = if W (T - 1) < 0 then 0 else if mo.toInt < W (T - 1) then mo.toInt else W (T - 1)
              have m9_z := ab_32 mo
              rw [if_neg (by omega), if_pos (by omega)]
          · exact absurd b19_z.1 x0_z
      · replace b20_z : (lg_cmp wx 0).toInt < (0 : Int32).toInt := b20_z
        replace b20_z := lgc_lt b20_z
        replace hm_z := rn_iconst (w := 0) (am_cur_of (i := (34, 1, .iconst 0, (0, 0, 0), 0)) (by decide +kernel)) (by decide) hm_z
        replace hm_z := rn_goto (am_cur_of (i := (35, 3, .goto 18, (31, 0, 0), 0)) (by decide +kernel)) hm_z
        replace hm_z := rn_iret (am_cur_of (i := (53, 1, .ireturn, (0, 0, 0), 0)) (by decide +kernel)) hm_z
        obtain ⟨e26_z, e27_z⟩ := hm_z
        refine ⟨_, e26_z, ?_, fun o q a_ b_ => by rw [e27_z]; exact fx o q a_ b_⟩
        rcases xx with ⟨W, x1_z, -, x3_z⟩ | ⟨-, x0_z⟩
        · rcases ev_z with ⟨-, v2_z⟩ | ⟨W2, v1_z, v2_z⟩
          · exact absurd (x1_z.symm.trans v2_z) (by intro z; cases z)
          · have eW : W = W2 := Option.some.inj (x1_z.symm.trans v2_z)
            rw [v1_z, ← eW]
            show _ = if W (T - 1) < 0 then 0 else if mo.toInt < W (T - 1) then mo.toInt else W (T - 1)
            have m9_z := ab_32 mo
            rw [if_pos (by omega)]
            decide
        · exact absurd b19_z.1 x0_z
    · replace b19_z : ¬ (rg_v h15_z 164 49) = (0 : Int32) ∧ ¬ (rg_v h15_z 164 49).toInt = (0 : Int32).toInt := b19_z
      replace hm_z := rn_iload_n (am_cur_of (i := (25, 1, .iload_n 2, (0, 0, 0), 0)) (by decide +kernel)) g2_z hm_z
      replace hm_z := rn_iret (am_cur_of (i := (26, 1, .ireturn, (0, 0, 0), 0)) (by decide +kernel)) hm_z
      obtain ⟨e28_z, e29_z⟩ := hm_z
      refine ⟨_, e28_z, ?_, fun o q a_ b_ => by rw [e29_z]; exact fx o q a_ b_⟩
      rcases xx with ⟨W, -, x0_z, -⟩ | ⟨xn, -⟩
      · exact absurd x0_z b19_z.1
      · rcases ev_z with ⟨v1_z, -⟩ | ⟨W, -, v2_z⟩
        · rw [v1_z]
          rfl
        · exact absurd (xn.symm.trans v2_z) (by intro z; cases z)
  · replace b13_z : (rg_v g 178 kd.toNatClampNeg) = (0 : Int32) ∧ (rg_v g 178 kd.toNatClampNeg).toInt = (0 : Int32).toInt := b13_z
    replace hm_z := rn_iload_n (am_cur_of (i := (9, 1, .iload_n 2, (0, 0, 0), 0)) (by decide +kernel)) g2_z hm_z
    replace hm_z := rn_iret (am_cur_of (i := (10, 1, .ireturn, (0, 0, 0), 0)) (by decide +kernel)) hm_z
    obtain ⟨e30_z, e31_z⟩ := hm_z
    refine ⟨_, e30_z, ?_, fun o q _ _ => by rw [e31_z]⟩
    rcases L with ⟨-, u2_z, u3_z, -⟩ | ⟨f, T, t1_z, -⟩
    · have c1_z := rt_cl (x := rg_v h (p + 12) kd.toNatClampNeg) (by omega)
      have c2_z := rt_cl (x := rg_v h (p + 13) kd.toNatClampNeg) (by omega)
      have eX : lawX p h kd.toNatClampNeg N = none := by
        unfold lawX
        rw [show (rg_v h (p + 12) kd.toNatClampNeg).toNatClampNeg = 0 by omega, show (rg_v h (p + 13) kd.toNatClampNeg).toNatClampNeg = 0 by omega]
        rfl
      rw [eX]
      rfl
    · exact absurd (t1_z.symm.trans b13_z.1) (by decide)
theorem ly_189 {n : Nat} {r : Option Value} {g g' : am_H} {bd o l br F S Hd : Int32} (eF : rg_v g 188 bd.toNatClampNeg = F) (eS : rg_v g 189 bd.toNatClampNeg = S) (eH : rg_v g 168 0 = Hd) (hm_z : rn n am_m189 0 (lv_args 0 [.ref 164, .int bd, .int o, .int l, .int br]) [] g r g') : (∀ o q, ¬ o = 186 → g' o q = g o q) ∧ (rg_l g' 186 0 = F.toInt64 ∧ rg_l g' 186 1 = (Hd - F).toInt64 ∧ rg_l g' 186 2 = o.toInt64 ∧ rg_l g' 186 3 = l.toInt64 ∧ rg_l g' 186 4 = S.toInt64 ∧ rg_l g' 186 5 = br.toInt64) := by
  have g0_z : am_get (lv_args 0 [.ref 164, .int bd, .int o, .int l, .int br]) 0 = some (.ref 164) := rfl
  have g1_z : am_get (lv_args 0 [.ref 164, .int bd, .int o, .int l, .int br]) 1 = some (.int bd) := rfl
  have g2_z : am_get (lv_args 0 [.ref 164, .int bd, .int o, .int l, .int br]) 2 = some (.int o) := rfl
  have g3_z : am_get (lv_args 0 [.ref 164, .int bd, .int o, .int l, .int br]) 3 = some (.int l) := rfl
  have g4_z : am_get (lv_args 0 [.ref 164, .int bd, .int o, .int l, .int br]) 4 = some (.int br) := rfl
  replace hm_z := rn_aload_n (am_cur_of (i := (0, 1, .aload_n 0, (0, 0, 0), 0)) (by decide +kernel)) g0_z hm_z
  replace hm_z := rn_getR (x := 186) (am_cur_of (i := (1, 3, .getfield 78, (12, 47, 1431), 0)) (by decide +kernel)) (by decide +kernel) hm_z
  replace hm_z := rn_iconst (w := 0) (am_cur_of (i := (4, 1, .iconst 0, (0, 0, 0), 0)) (by decide +kernel)) (by decide) hm_z
  replace hm_z := rn_aload_n (am_cur_of (i := (5, 1, .aload_n 0, (0, 0, 0), 0)) (by decide +kernel)) g0_z hm_z
  replace hm_z := rn_getR (x := 188) (am_cur_of (i := (6, 3, .getfield 85, (12, 50, 1434), 0)) (by decide +kernel)) (by decide +kernel) hm_z
  replace hm_z := rn_iload_n (am_cur_of (i := (9, 1, .iload_n 1, (0, 0, 0), 0)) (by decide +kernel)) g1_z hm_z
  replace hm_z := rn_iaload (N := 4) (q := bd.toNatClampNeg) (v := F) (am_cur_of (i := (10, 1, .iaload, (0, 0, 0), 0)) (by decide +kernel)) (by decide +kernel) rfl eF hm_z
  obtain ⟨p32_z, hm_z⟩ := hm_z
  replace hm_z := rn_i2l (w := F.toInt64) (am_cur_of (i := (11, 1, .i2l, (0, 0, 0), 0)) (by decide +kernel)) rfl hm_z
  replace hm_z := rn_lastore (N := 6) (q := 0) (am_cur_of (i := (12, 1, .lastore, (0, 0, 0), 0)) (by decide +kernel)) (by decide +kernel) rfl hm_z
  obtain ⟨p33_z, hm_z⟩ := hm_z
  replace hm_z := rn_aload_n (am_cur_of (i := (13, 1, .aload_n 0, (0, 0, 0), 0)) (by decide +kernel)) g0_z hm_z
  replace hm_z := rn_getR (x := 186) (am_cur_of (i := (14, 3, .getfield 78, (12, 47, 1431), 0)) (by decide +kernel)) (by decide +kernel) hm_z
  replace hm_z := rn_iconst (w := 1) (am_cur_of (i := (17, 1, .iconst 1, (0, 0, 0), 0)) (by decide +kernel)) (by decide) hm_z
  replace hm_z := rn_aload_n (am_cur_of (i := (18, 1, .aload_n 0, (0, 0, 0), 0)) (by decide +kernel)) g0_z hm_z
  replace hm_z := rn_getR (x := 168) (am_cur_of (i := (19, 3, .getfield 24, (12, 23, 1407), 0)) (by decide +kernel)) (by decide +kernel) hm_z
  replace hm_z := rn_iconst (w := 0) (am_cur_of (i := (22, 1, .iconst 0, (0, 0, 0), 0)) (by decide +kernel)) (by decide) hm_z
  replace hm_z := rn_iaload (N := 12) (q := 0) (v := Hd) (am_cur_of (i := (23, 1, .iaload, (0, 0, 0), 0)) (by decide +kernel)) (by decide +kernel) rfl ((rg_v_other (by omega)).trans (eH)) hm_z
  obtain ⟨p34_z, hm_z⟩ := hm_z
  replace hm_z := rn_aload_n (am_cur_of (i := (24, 1, .aload_n 0, (0, 0, 0), 0)) (by decide +kernel)) g0_z hm_z
  replace hm_z := rn_getR (x := 188) (am_cur_of (i := (25, 3, .getfield 85, (12, 50, 1434), 0)) (by decide +kernel)) (by decide +kernel) hm_z
  replace hm_z := rn_iload_n (am_cur_of (i := (28, 1, .iload_n 1, (0, 0, 0), 0)) (by decide +kernel)) g1_z hm_z
  replace hm_z := rn_iaload (N := 4) (q := bd.toNatClampNeg) (v := F) (am_cur_of (i := (29, 1, .iaload, (0, 0, 0), 0)) (by decide +kernel)) (by decide +kernel) rfl ((rg_v_other (by omega)).trans (eF)) hm_z
  obtain ⟨p35_z, hm_z⟩ := hm_z
  replace hm_z := rn_isub (w := Hd - F) (am_cur_of (i := (30, 1, .isub, (0, 0, 0), 0)) (by decide +kernel)) rfl hm_z
  replace hm_z := rn_i2l (w := (Hd - F).toInt64) (am_cur_of (i := (31, 1, .i2l, (0, 0, 0), 0)) (by decide +kernel)) rfl hm_z
  replace hm_z := rn_lastore (N := 6) (q := 1) (am_cur_of (i := (32, 1, .lastore, (0, 0, 0), 0)) (by decide +kernel)) (by decide +kernel) rfl hm_z
  obtain ⟨p36_z, hm_z⟩ := hm_z
  replace hm_z := rn_aload_n (am_cur_of (i := (33, 1, .aload_n 0, (0, 0, 0), 0)) (by decide +kernel)) g0_z hm_z
  replace hm_z := rn_getR (x := 186) (am_cur_of (i := (34, 3, .getfield 78, (12, 47, 1431), 0)) (by decide +kernel)) (by decide +kernel) hm_z
  replace hm_z := rn_iconst (w := 2) (am_cur_of (i := (37, 1, .iconst 2, (0, 0, 0), 0)) (by decide +kernel)) (by decide) hm_z
  replace hm_z := rn_iload_n (am_cur_of (i := (38, 1, .iload_n 2, (0, 0, 0), 0)) (by decide +kernel)) g2_z hm_z
  replace hm_z := rn_i2l (w := o.toInt64) (am_cur_of (i := (39, 1, .i2l, (0, 0, 0), 0)) (by decide +kernel)) rfl hm_z
  replace hm_z := rn_lastore (N := 6) (q := 2) (am_cur_of (i := (40, 1, .lastore, (0, 0, 0), 0)) (by decide +kernel)) (by decide +kernel) rfl hm_z
  obtain ⟨p37_z, hm_z⟩ := hm_z
  replace hm_z := rn_aload_n (am_cur_of (i := (41, 1, .aload_n 0, (0, 0, 0), 0)) (by decide +kernel)) g0_z hm_z
  replace hm_z := rn_getR (x := 186) (am_cur_of (i := (42, 3, .getfield 78, (12, 47, 1431), 0)) (by decide +kernel)) (by decide +kernel) hm_z
  replace hm_z := rn_iconst (w := 3) (am_cur_of (i := (45, 1, .iconst 3, (0, 0, 0), 0)) (by decide +kernel)) (by decide) hm_z
  replace hm_z := rn_iload_n (am_cur_of (i := (46, 1, .iload_n 3, (0, 0, 0), 0)) (by decide +kernel)) g3_z hm_z
  replace hm_z := rn_i2l (w := l.toInt64) (am_cur_of (i := (47, 1, .i2l, (0, 0, 0), 0)) (by decide +kernel)) rfl hm_z
  replace hm_z := rn_lastore (N := 6) (q := 3) (am_cur_of (i := (48, 1, .lastore, (0, 0, 0), 0)) (by decide +kernel)) (by decide +kernel) rfl hm_z
  obtain ⟨p38_z, hm_z⟩ := hm_z
  replace hm_z := rn_aload_n (am_cur_of (i := (49, 1, .aload_n 0, (0, 0, 0), 0)) (by decide +kernel)) g0_z hm_z
  replace hm_z := rn_getR (x := 186) (am_cur_of (i := (50, 3, .getfield 78, (12, 47, 1431), 0)) (by decide +kernel)) (by decide +kernel) hm_z
  replace hm_z := rn_iconst (w := 4) (am_cur_of (i := (53, 1, .iconst 4, (0, 0, 0), 0)) (by decide +kernel)) (by decide) hm_z
  replace hm_z := rn_aload_n (am_cur_of (i := (54, 1, .aload_n 0, (0, 0, 0), 0)) (by decide +kernel)) g0_z hm_z
  replace hm_z := rn_getR (x := 189) (am_cur_of (i := (55, 3, .getfield 88, (12, 51, 1435), 0)) (by decide +kernel)) (by decide +kernel) hm_z
  replace hm_z := rn_iload_n (am_cur_of (i := (58, 1, .iload_n 1, (0, 0, 0), 0)) (by decide +kernel)) g1_z hm_z
  replace hm_z := rn_iaload (N := 4) (q := bd.toNatClampNeg) (v := S) (am_cur_of (i := (59, 1, .iaload, (0, 0, 0), 0)) (by decide +kernel)) (by decide +kernel) rfl ((rg_v_other (by omega)).trans ((rg_v_other (by omega)).trans ((rg_v_other (by omega)).trans ((rg_v_other (by omega)).trans (eS))))) hm_z
  obtain ⟨p39_z, hm_z⟩ := hm_z
  replace hm_z := rn_i2l (w := S.toInt64) (am_cur_of (i := (60, 1, .i2l, (0, 0, 0), 0)) (by decide +kernel)) rfl hm_z
  replace hm_z := rn_lastore (N := 6) (q := 4) (am_cur_of (i := (61, 1, .lastore, (0, 0, 0), 0)) (by decide +kernel)) (by decide +kernel) rfl hm_z
  obtain ⟨p40_z, hm_z⟩ := hm_z
  replace hm_z := rn_aload_n (am_cur_of (i := (62, 1, .aload_n 0, (0, 0, 0), 0)) (by decide +kernel)) g0_z hm_z
  replace hm_z := rn_getR (x := 186) (am_cur_of (i := (63, 3, .getfield 78, (12, 47, 1431), 0)) (by decide +kernel)) (by decide +kernel) hm_z
  replace hm_z := rn_iconst (w := 5) (am_cur_of (i := (66, 1, .iconst 5, (0, 0, 0), 0)) (by decide +kernel)) (by decide) hm_z
  replace hm_z := rn_iload (am_cur_of (i := (67, 2, .iload 4, (0, 0, 0), 0)) (by decide +kernel)) g4_z hm_z
  replace hm_z := rn_i2l (w := br.toInt64) (am_cur_of (i := (69, 1, .i2l, (0, 0, 0), 0)) (by decide +kernel)) rfl hm_z
  replace hm_z := rn_lastore (N := 6) (q := 5) (am_cur_of (i := (70, 1, .lastore, (0, 0, 0), 0)) (by decide +kernel)) (by decide +kernel) rfl hm_z
  obtain ⟨p41_z, hm_z⟩ := hm_z
  replace hm_z := rn_vret (am_cur_of (i := (71, 1, .return_, (0, 0, 0), 0)) (by decide +kernel)) hm_z
  obtain ⟨e42_z, e43_z⟩ := hm_z
  refine ⟨fun o q ho => ?_, ?_⟩
  · rw [e43_z]
    exact (up_ne (fun z => ho z.1)).trans ((up_ne (fun z => ho z.1)).trans ((up_ne (fun z => ho z.1)).trans ((up_ne (fun z => ho z.1)).trans ((up_ne (fun z => ho z.1)).trans ((up_ne (fun z => ho z.1)).trans (rfl))))))
  · rw [e43_z]
    exact ⟨rfl, rfl, rfl, rfl, rfl, rfl⟩
/-- the names of both -/
theorem nm_al {g : am_H} {l F R o s b : Int32} (e : rg_l g 186 0 = F.toInt64 ∧ rg_l g 186 1 = R.toInt64 ∧ rg_l g 186 2 = o.toInt64 ∧ rg_l g 186 3 = l.toInt64 ∧ rg_l g 186 4 = s.toInt64 ∧ rg_l g 186 5 = b.toInt64) : (∀ q, q < 6 → lB (rg_l g 186 q).toInt) ∧ (eC l F R o s b (0 : Int32).toNatClampNeg).toInt = (rg_l g 186 (3 : Int32).toNatClampNeg).toInt ∧ (∀ v u, lq_n v u → ¬ v = 0 → (eC l F R o s b v.toNatClampNeg).toInt = (rg_l g 186 u.toNatClampNeg).toInt) := by
  obtain ⟨e0_z, e1_z, e2_z, e3_z, e4_z, e5_z⟩ := e
  refine ⟨fun q hq_z => ?_, ?_, fun v u h n => ?_⟩
  · match q, hq_z with
    | 0, _ => rw [e0_z]; exact eC_b (l := l) (F := F) (R := R) (o := o) (s := s) (b := b) 1
    | 1, _ => rw [e1_z]; exact eC_b (l := l) (F := F) (R := R) (o := o) (s := s) (b := b) 2
    | 2, _ => rw [e2_z]; exact eC_b (l := l) (F := F) (R := R) (o := o) (s := s) (b := b) 3
    | 3, _ => rw [e3_z]; exact eC_b (l := l) (F := F) (R := R) (o := o) (s := s) (b := b) 0
    | 4, _ => rw [e4_z]; exact eC_b (l := l) (F := F) (R := R) (o := o) (s := s) (b := b) 4
    | 5, _ => rw [e5_z]; exact eC_b (l := l) (F := F) (R := R) (o := o) (s := s) (b := b) 5
    | q + 6, hq_z => omega
  · rw [show (3 : Int32).toNatClampNeg = 3 by decide, show (0 : Int32).toNatClampNeg = 0 by decide, e3_z]
    rfl
  · rcases h with ⟨e, -⟩ | ⟨e, f⟩ | ⟨e, f⟩ | ⟨e, f⟩ | ⟨e, f⟩ | ⟨e, f⟩
    · exact absurd e n
    · rw [e, f, show (1 : Int32).toNatClampNeg = 1 by decide, show (0 : Int32).toNatClampNeg = 0 by decide, e0_z]
      rfl
    · rw [e, f, show (2 : Int32).toNatClampNeg = 2 by decide, show (1 : Int32).toNatClampNeg = 1 by decide, e1_z]
      rfl
    · rw [e, f, show (3 : Int32).toNatClampNeg = 3 by decide, show (2 : Int32).toNatClampNeg = 2 by decide, e2_z]
      rfl
    · rw [e, f, show (4 : Int32).toNatClampNeg = 4 by decide, e4_z]
      rfl
    · rw [e, f, show (5 : Int32).toNatClampNeg = 5 by decide, e5_z]
      rfl
theorem lo_188 {n p : Nat} {r : Option Value} {h g g' : am_H} {bd o F S Hd U : Int32} (L : LW p h g) (eF : rg_v g 188 bd.toNatClampNeg = F) (eS : rg_v g 189 bd.toNatClampNeg = S) (eH : rg_v g 168 0 = Hd) (eU : rg_v g 164 61 = U) (hm_z : rn n am_m188 0 (lv_args 0 [.ref 164, .int bd, .int o]) [] g r g') : ∃ x : Int32, r = some (.int x) ∧ x.toInt = ldZ p h U F (Hd - F) o S ∧ ∀ o q, ¬ (o = 164 ∧ q = 49) → ¬ o = 187 → ¬ o = 186 → g' o q = g o q := by
  have z0_z : (0 : Int32).toInt = 0 := by decide
  have z99_z : (99 : Int32).toInt = 99 := by decide
  have k2_z : (2 : Int32).toNatClampNeg = 2 := by decide
  have g0_z : am_get (lv_args 0 [.ref 164, .int bd, .int o]) 0 = some (.ref 164) := rfl
  have g1_z : am_get (lv_args 0 [.ref 164, .int bd, .int o]) 1 = some (.int bd) := rfl
  have g2_z : am_get (lv_args 0 [.ref 164, .int bd, .int o]) 2 = some (.int o) := rfl
  replace hm_z := rn_aload_n (am_cur_of (i := (0, 1, .aload_n 0, (0, 0, 0), 0)) (by decide +kernel)) g0_z hm_z
  replace hm_z := rn_getI (v := U) (am_cur_of (i := (1, 3, .getfield 355, (12, 61, 1445), 0)) (by decide +kernel)) (by decide +kernel) eU hm_z
  replace hm_z := rn_if (am_cur_of (i := (4, 3, .ifCond .eq 5, (5, 0, 0), 0)) (by decide +kernel)) hm_z
  rcases hm_z with ⟨b44_z, hm_z⟩ | ⟨b44_z, hm_z⟩
  · replace b44_z : U = (0 : Int32) ∧ U.toInt = (0 : Int32).toInt := b44_z
    replace hm_z := rn_aload_n (am_cur_of (i := (9, 1, .aload_n 0, (0, 0, 0), 0)) (by decide +kernel)) g0_z hm_z
    replace hm_z := rn_iload_n (am_cur_of (i := (10, 1, .iload_n 1, (0, 0, 0), 0)) (by decide +kernel)) g1_z hm_z
    replace hm_z := rn_iload_n (am_cur_of (i := (11, 1, .iload_n 2, (0, 0, 0), 0)) (by decide +kernel)) g2_z hm_z
    replace hm_z := rn_iconst (w := 0) (am_cur_of (i := (12, 1, .iconst 0, (0, 0, 0), 0)) (by decide +kernel)) (by decide) hm_z
    replace hm_z := rn_iconst (w := 0) (am_cur_of (i := (13, 1, .iconst 0, (0, 0, 0), 0)) (by decide +kernel)) (by decide) hm_z
    replace hm_z := rn_callV (M' := am_m189) (o := 164) (ar := [.int 0, .int 0, .int o, .int bd]) (rest := []) (L := lv_args 0 [.ref 164, .int bd, .int o, .int 0, .int 0]) (am_cur_of (i := (14, 3, .invokevirtual 392, (189, 1787, 3), 0)) (by decide +kernel)) rfl rfl rfl rfl hm_z
    obtain ⟨r45_z, h46_z, q47_z, hm_z⟩ := hm_z
    have vo := rn_void rfl q47_z
    subst vo
    obtain ⟨y1_z, y2_z⟩ := ly_189 eF eS eH q47_z
    have L2 : LW p h h46_z := LW_e (fun _ _ _ _ => rfl) (fun o q e => lw_v (y1_z o q (by unfold lwQ at e; omega))) L
    obtain ⟨n1_z, n2_z, n3_z⟩ := nm_al y2_z
    replace hm_z : rn _ _ _ _ [] _ _ _ := hm_z
    replace hm_z := rn_aload_n (am_cur_of (i := (17, 1, .aload_n 0, (0, 0, 0), 0)) (by decide +kernel)) g0_z hm_z
    replace hm_z := rn_iconst (w := 2) (am_cur_of (i := (18, 1, .iconst 2, (0, 0, 0), 0)) (by decide +kernel)) (by decide) hm_z
    replace hm_z := rn_iconst (w := 0) (am_cur_of (i := (19, 1, .iconst 0, (0, 0, 0), 0)) (by decide +kernel)) (by decide) hm_z
    replace hm_z := rn_bipush (w := 99) (am_cur_of (i := (20, 2, .bipush 99, (0, 0, 0), 0)) (by decide +kernel)) (by decide) hm_z
    replace hm_z := rn_callV (M' := am_m190) (o := 164) (ar := [.int 99, .int 0, .int 2]) (rest := []) (L := lv_args 0 [.ref 164, .int 2, .int 0, .int 99]) (am_cur_of (i := (22, 3, .invokevirtual 396, (190, 1791, 3), 0)) (by decide +kernel)) rfl rfl rfl rfl hm_z
    obtain ⟨r48_z, h49_z, q50_z, hm_z⟩ := hm_z
    obtain ⟨x, rr, xe, xf⟩ := bw_190 (N := eC 0 F (Hd - F) o S 0) (by rw [k2_z]; exact L2 2 (by decide)) n1_z (Or.inr n2_z) n3_z (by decide) q50_z
    subst rr
    rw [k2_z, z0_z, z99_z] at xe
    replace hm_z : rn _ _ _ _ [.int x] _ _ _ := hm_z
    replace hm_z := rn_iret (am_cur_of (i := (25, 1, .ireturn, (0, 0, 0), 0)) (by decide +kernel)) hm_z
    obtain ⟨e51_z, e52_z⟩ := hm_z
    refine ⟨_, e51_z, ?_, fun o q a_ b_ c_ => by rw [e52_z]; exact (xf o q a_ b_).trans (y1_z o q c_)⟩
    unfold ldZ
    rw [if_pos b44_z.1]
    exact xe
  · replace b44_z : ¬ U = (0 : Int32) ∧ ¬ U.toInt = (0 : Int32).toInt := b44_z
    replace hm_z := rn_iconst (w := 0) (am_cur_of (i := (7, 1, .iconst 0, (0, 0, 0), 0)) (by decide +kernel)) (by decide) hm_z
    replace hm_z := rn_iret (am_cur_of (i := (8, 1, .ireturn, (0, 0, 0), 0)) (by decide +kernel)) hm_z
    obtain ⟨e53_z, e54_z⟩ := hm_z
    refine ⟨_, e53_z, ?_, fun o q _ _ _ => by rw [e54_z]⟩
    unfold ldZ
    rw [if_neg b44_z.1]
    decide
theorem wo_65_148_2 {n : Nat} {r : Option Value} {h h' g : am_H} {kd o br F S Hd U : Int32} (D : h 148 0 = .ref 2) (L : LW 2 h g) (eF : rg_v h 149 0 = F) (eS : rg_v h 149 1 = S) (eH : rg_v h 2 0 = Hd) (eU : rg_v h 148 3 = U) (hk_z : kd.toNatClampNeg < 3) (hc_z : rn n am_m65 0 (lv_args 0 [.ref 148, .int kd, .int o, .int br]) [] h r h') : ∃ w : Int64, r = some (.long w) ∧ (kd = 2 → lR (lawX 2 h kd.toNatClampNeg (eC 0 F (Hd - F) o S br)) w.toInt) ∧ (¬ kd = 2 → lR (lawX 2 h kd.toNatClampNeg (eC (ldX 2 h U F (Hd - F) o S) F (Hd - F) o S br)) w.toInt) ∧ ∀ o q, ¬ o = 17 → ¬ o = 18 → h' o q = h o q := by
  have z0_z : (0 : Int32).toInt = 0 := by decide
  have z2_z : (2 : Int32).toInt = 2 := by decide
  have z99_z : (99 : Int32).toInt = 99 := by decide
  have k2_z : (2 : Int32).toNatClampNeg = 2 := by decide
  have g0_z : am_get (lv_args 0 [.ref 148, .int kd, .int o, .int br]) 0 = some (.ref 148) := rfl
  have g1_z : am_get (lv_args 0 [.ref 148, .int kd, .int o, .int br]) 1 = some (.int kd) := rfl
  have g2_z : am_get (lv_args 0 [.ref 148, .int kd, .int o, .int br]) 2 = some (.int o) := rfl
  have g3_z : am_get (lv_args 0 [.ref 148, .int kd, .int o, .int br]) 3 = some (.int br) := rfl
  replace hc_z := rn_aload_n (am_cur_of (i := (0, 1, .aload_n 0, (0, 0, 0), 0)) (by decide +kernel)) g0_z hc_z
  replace hc_z := rn_getM (x := 2) (am_cur_of (i := (1, 3, .getfield 18, (8, 0, 566), 0)) (by decide +kernel)) D hc_z
  replace hc_z := rn_getR (x := 11) (am_cur_of (i := (4, 3, .getfield 62, (1, 19, 315), 0)) (by decide +kernel)) (by decide +kernel) hc_z
  replace hc_z := rn_astore (am_cur_of (i := (7, 2, .astore 4, (0, 0, 0), 0)) (by decide +kernel)) hc_z
  obtain ⟨_, s55_z, s56_z, g4_z, hc_z⟩ := hc_z
  replace g0_z := s55_z 0 _ (by decide) rfl g0_z
  replace g1_z := s55_z 1 _ (by decide) rfl g1_z
  replace g2_z := s55_z 2 _ (by decide) rfl g2_z
  replace g3_z := s55_z 3 _ (by decide) rfl g3_z
  clear s55_z s56_z
  replace hc_z := rn_aload (am_cur_of (i := (9, 2, .aload 4, (0, 0, 0), 0)) (by decide +kernel)) g4_z hc_z
  replace hc_z := rn_getR (x := 17) (am_cur_of (i := (11, 3, .getfield 66, (2, 7, 174), 0)) (by decide +kernel)) (by decide +kernel) hc_z
  replace hc_z := rn_iconst (w := 1) (am_cur_of (i := (14, 1, .iconst 1, (0, 0, 0), 0)) (by decide +kernel)) (by decide) hc_z
  replace hc_z := rn_aload_n (am_cur_of (i := (15, 1, .aload_n 0, (0, 0, 0), 0)) (by decide +kernel)) g0_z hc_z
  replace hc_z := rn_getR (x := 149) (am_cur_of (i := (16, 3, .getfield 12, (8, 1, 569), 0)) (by decide +kernel)) (by decide +kernel) hc_z
  replace hc_z := rn_getI (v := F) (am_cur_of (i := (19, 3, .getfield 49, (5, 0, 463), 0)) (by decide +kernel)) (by decide +kernel) eF hc_z
  replace hc_z := rn_i2l (w := F.toInt64) (am_cur_of (i := (22, 1, .i2l, (0, 0, 0), 0)) (by decide +kernel)) rfl hc_z
  replace hc_z := rn_lastore (N := 6) (q := 1) (am_cur_of (i := (23, 1, .lastore, (0, 0, 0), 0)) (by decide +kernel)) (by decide +kernel) rfl hc_z
  obtain ⟨p57_z, hc_z⟩ := hc_z
  replace hc_z := rn_aload (am_cur_of (i := (24, 2, .aload 4, (0, 0, 0), 0)) (by decide +kernel)) g4_z hc_z
  replace hc_z := rn_getR (x := 17) (am_cur_of (i := (26, 3, .getfield 66, (2, 7, 174), 0)) (by decide +kernel)) (by decide +kernel) hc_z
  replace hc_z := rn_iconst (w := 2) (am_cur_of (i := (29, 1, .iconst 2, (0, 0, 0), 0)) (by decide +kernel)) (by decide) hc_z
  replace hc_z := rn_aload_n (am_cur_of (i := (30, 1, .aload_n 0, (0, 0, 0), 0)) (by decide +kernel)) g0_z hc_z
  replace hc_z := rn_getM (x := 2) (am_cur_of (i := (31, 3, .getfield 18, (8, 0, 566), 0)) (by decide +kernel)) (show (am_up h 17 1 (.long F.toInt64)) 148 0 = .ref 2 from D) hc_z
  replace hc_z := rn_getI (v := Hd) (am_cur_of (i := (34, 3, .getfield 52, (1, 0, 249), 0)) (by decide +kernel)) (by decide +kernel) ((rg_v_other (by omega)).trans (eH)) hc_z
  replace hc_z := rn_aload_n (am_cur_of (i := (37, 1, .aload_n 0, (0, 0, 0), 0)) (by decide +kernel)) g0_z hc_z
  replace hc_z := rn_getR (x := 149) (am_cur_of (i := (38, 3, .getfield 12, (8, 1, 569), 0)) (by decide +kernel)) (by decide +kernel) hc_z
  replace hc_z := rn_getI (v := F) (am_cur_of (i := (41, 3, .getfield 49, (5, 0, 463), 0)) (by decide +kernel)) (by decide +kernel) ((rg_v_other (by omega)).trans (eF)) hc_z
  replace hc_z := rn_isub (w := Hd - F) (am_cur_of (i := (44, 1, .isub, (0, 0, 0), 0)) (by decide +kernel)) rfl hc_z
  replace hc_z := rn_i2l (w := (Hd - F).toInt64) (am_cur_of (i := (45, 1, .i2l, (0, 0, 0), 0)) (by decide +kernel)) rfl hc_z
  replace hc_z := rn_lastore (N := 6) (q := 2) (am_cur_of (i := (46, 1, .lastore, (0, 0, 0), 0)) (by decide +kernel)) (by decide +kernel) rfl hc_z
  obtain ⟨p58_z, hc_z⟩ := hc_z
  replace hc_z := rn_aload (am_cur_of (i := (47, 2, .aload 4, (0, 0, 0), 0)) (by decide +kernel)) g4_z hc_z
  replace hc_z := rn_getR (x := 17) (am_cur_of (i := (49, 3, .getfield 66, (2, 7, 174), 0)) (by decide +kernel)) (by decide +kernel) hc_z
  replace hc_z := rn_iconst (w := 3) (am_cur_of (i := (52, 1, .iconst 3, (0, 0, 0), 0)) (by decide +kernel)) (by decide) hc_z
  replace hc_z := rn_iload_n (am_cur_of (i := (53, 1, .iload_n 2, (0, 0, 0), 0)) (by decide +kernel)) g2_z hc_z
  replace hc_z := rn_i2l (w := o.toInt64) (am_cur_of (i := (54, 1, .i2l, (0, 0, 0), 0)) (by decide +kernel)) rfl hc_z
  replace hc_z := rn_lastore (N := 6) (q := 3) (am_cur_of (i := (55, 1, .lastore, (0, 0, 0), 0)) (by decide +kernel)) (by decide +kernel) rfl hc_z
  obtain ⟨p59_z, hc_z⟩ := hc_z
  replace hc_z := rn_aload (am_cur_of (i := (56, 2, .aload 4, (0, 0, 0), 0)) (by decide +kernel)) g4_z hc_z
  replace hc_z := rn_getR (x := 17) (am_cur_of (i := (58, 3, .getfield 66, (2, 7, 174), 0)) (by decide +kernel)) (by decide +kernel) hc_z
  replace hc_z := rn_iconst (w := 4) (am_cur_of (i := (61, 1, .iconst 4, (0, 0, 0), 0)) (by decide +kernel)) (by decide) hc_z
  replace hc_z := rn_aload_n (am_cur_of (i := (62, 1, .aload_n 0, (0, 0, 0), 0)) (by decide +kernel)) g0_z hc_z
  replace hc_z := rn_getR (x := 149) (am_cur_of (i := (63, 3, .getfield 12, (8, 1, 569), 0)) (by decide +kernel)) (by decide +kernel) hc_z
  replace hc_z := rn_getI (v := S) (am_cur_of (i := (66, 3, .getfield 59, (5, 1, 470), 0)) (by decide +kernel)) (by decide +kernel) ((rg_v_other (by omega)).trans ((rg_v_other (by omega)).trans ((rg_v_other (by omega)).trans (eS)))) hc_z
  replace hc_z := rn_i2l (w := S.toInt64) (am_cur_of (i := (69, 1, .i2l, (0, 0, 0), 0)) (by decide +kernel)) rfl hc_z
  replace hc_z := rn_lastore (N := 6) (q := 4) (am_cur_of (i := (70, 1, .lastore, (0, 0, 0), 0)) (by decide +kernel)) (by decide +kernel) rfl hc_z
  obtain ⟨p60_z, hc_z⟩ := hc_z
  replace hc_z := rn_aload (am_cur_of (i := (71, 2, .aload 4, (0, 0, 0), 0)) (by decide +kernel)) g4_z hc_z
  replace hc_z := rn_getR (x := 17) (am_cur_of (i := (73, 3, .getfield 66, (2, 7, 174), 0)) (by decide +kernel)) (by decide +kernel) hc_z
  replace hc_z := rn_iconst (w := 0) (am_cur_of (i := (76, 1, .iconst 0, (0, 0, 0), 0)) (by decide +kernel)) (by decide) hc_z
  replace hc_z := rn_lconst (w := 0) (am_cur_of (i := (77, 1, .lconst 0, (0, 0, 0), 0)) (by decide +kernel)) rfl hc_z
  replace hc_z := rn_lastore (N := 6) (q := 0) (am_cur_of (i := (78, 1, .lastore, (0, 0, 0), 0)) (by decide +kernel)) (by decide +kernel) rfl hc_z
  obtain ⟨p61_z, hc_z⟩ := hc_z
  replace hc_z := rn_aload (am_cur_of (i := (79, 2, .aload 4, (0, 0, 0), 0)) (by decide +kernel)) g4_z hc_z
  replace hc_z := rn_getR (x := 17) (am_cur_of (i := (81, 3, .getfield 66, (2, 7, 174), 0)) (by decide +kernel)) (by decide +kernel) hc_z
  replace hc_z := rn_iconst (w := 5) (am_cur_of (i := (84, 1, .iconst 5, (0, 0, 0), 0)) (by decide +kernel)) (by decide) hc_z
  replace hc_z := rn_lconst (w := 0) (am_cur_of (i := (85, 1, .lconst 0, (0, 0, 0), 0)) (by decide +kernel)) rfl hc_z
  replace hc_z := rn_lastore (N := 6) (q := 5) (am_cur_of (i := (86, 1, .lastore, (0, 0, 0), 0)) (by decide +kernel)) (by decide +kernel) rfl hc_z
  obtain ⟨p62_z, hc_z⟩ := hc_z
  replace hc_z := rn_iload_n (am_cur_of (i := (87, 1, .iload_n 1, (0, 0, 0), 0)) (by decide +kernel)) g1_z hc_z
  replace hc_z := rn_iconst (w := 2) (am_cur_of (i := (88, 1, .iconst 2, (0, 0, 0), 0)) (by decide +kernel)) (by decide) hc_z
  replace hc_z := rn_cmp (am_cur_of (i := (89, 3, .if_icmp .eq 40, (70, 0, 0), 0)) (by decide +kernel)) hc_z
  rcases hc_z with ⟨b63_z, hc_z⟩ | ⟨b63_z, hc_z⟩
  · replace b63_z : kd = (2 : Int32) ∧ kd.toInt = (2 : Int32).toInt := b63_z
    replace hc_z := rn_aload (am_cur_of (i := (129, 2, .aload 4, (0, 0, 0), 0)) (by decide +kernel)) g4_z hc_z
    replace hc_z := rn_getR (x := 17) (am_cur_of (i := (131, 3, .getfield 66, (2, 7, 174), 0)) (by decide +kernel)) (by decide +kernel) hc_z
    replace hc_z := rn_iconst (w := 5) (am_cur_of (i := (134, 1, .iconst 5, (0, 0, 0), 0)) (by decide +kernel)) (by decide) hc_z
    replace hc_z := rn_iload_n (am_cur_of (i := (135, 1, .iload_n 3, (0, 0, 0), 0)) (by decide +kernel)) g3_z hc_z
    replace hc_z := rn_i2l (w := br.toInt64) (am_cur_of (i := (136, 1, .i2l, (0, 0, 0), 0)) (by decide +kernel)) rfl hc_z
    replace hc_z := rn_lastore (N := 6) (q := 5) (am_cur_of (i := (137, 1, .lastore, (0, 0, 0), 0)) (by decide +kernel)) (by decide +kernel) rfl hc_z
    obtain ⟨p64_z, hc_z⟩ := hc_z
    replace hc_z := rn_aload (am_cur_of (i := (138, 2, .aload 4, (0, 0, 0), 0)) (by decide +kernel)) g4_z hc_z
    replace hc_z := rn_iload_n (am_cur_of (i := (140, 1, .iload_n 1, (0, 0, 0), 0)) (by decide +kernel)) g1_z hc_z
    replace hc_z := rn_callV (M' := am_m66) (o := 11) (ar := [.int kd]) (rest := []) (L := lv_args 0 [.ref 11, .int kd]) (am_cur_of (i := (141, 3, .invokevirtual 76, (66, 925, 3), 0)) (by decide +kernel)) rfl rfl rfl rfl hc_z
    obtain ⟨r65_z, h66_z, q67_z, hc_z⟩ := hc_z
    have Lv68 : LW 2 (am_up (am_up (am_up (am_up (am_up (am_up (am_up h 17 1 (.long F.toInt64)) 17 2 (.long ((Hd - F).toInt64))) 17 3 (.long o.toInt64)) 17 4 (.long S.toInt64)) 17 0 (.long 0)) 17 5 (.long 0)) 17 5 (.long br.toInt64)) g := LW_e (fun o q a_ b_ => (rg_v_other (by omega)).trans ((rg_v_other (by omega)).trans ((rg_v_other (by omega)).trans ((rg_v_other (by omega)).trans ((rg_v_other (by omega)).trans ((rg_v_other (by omega)).trans ((rg_v_other (by omega)).trans (rfl)))))))) (fun _ _ _ => rfl) L
    have hnv68 : ∀ q, q < 6 → rg_l (am_up (am_up (am_up (am_up (am_up (am_up (am_up h 17 1 (.long F.toInt64)) 17 2 (.long ((Hd - F).toInt64))) 17 3 (.long o.toInt64)) 17 4 (.long S.toInt64)) 17 0 (.long 0)) 17 5 (.long 0)) 17 5 (.long br.toInt64)) 17 q = eC 0 F (Hd - F) o S br q := by
      intro q hq_z
      match q, hq_z with
      | 0, _ => rfl
      | 1, _ => rfl
      | 2, _ => rfl
      | 3, _ => rfl
      | 4, _ => rfl
      | 5, _ => rfl
      | q + 6, hq_z => omega
    obtain ⟨wv68_z, rr, xv68_z, fv68_z⟩ := vw_66_2 (kd := kd) (Lv68 _ hk_z) (fun q hq_z => by rw [hnv68 q hq_z]; exact eC_b q) q67_z
    subst rr
    rw [lawX_N (N := fun q => rg_l (am_up (am_up (am_up (am_up (am_up (am_up (am_up h 17 1 (.long F.toInt64)) 17 2 (.long ((Hd - F).toInt64))) 17 3 (.long o.toInt64)) 17 4 (.long S.toInt64)) 17 0 (.long 0)) 17 5 (.long 0)) 17 5 (.long br.toInt64)) 17 q) (N' := eC 0 F (Hd - F) o S br) (Lv68 _ hk_z) (Or.inr (congrArg Int64.toInt (hnv68 0 (by decide)))) (fun q _ hq_z => congrArg Int64.toInt (hnv68 q hq_z)), lawX_e (h := h) (h' := (am_up (am_up (am_up (am_up (am_up (am_up (am_up h 17 1 (.long F.toInt64)) 17 2 (.long ((Hd - F).toInt64))) 17 3 (.long o.toInt64)) 17 4 (.long S.toInt64)) 17 0 (.long 0)) 17 5 (.long 0)) 17 5 (.long br.toInt64))) (fun o q a_ b_ => (rg_v_other (by omega)).trans ((rg_v_other (by omega)).trans ((rg_v_other (by omega)).trans ((rg_v_other (by omega)).trans ((rg_v_other (by omega)).trans ((rg_v_other (by omega)).trans ((rg_v_other (by omega)).trans (rfl))))))))] at xv68_z
    replace hc_z : rn _ _ _ _ [.long wv68_z] _ _ _ := hc_z
    replace hc_z := rn_lret (am_cur_of (i := (144, 1, .lreturn, (0, 0, 0), 0)) (by decide +kernel)) hc_z
    obtain ⟨e69_z, e70_z⟩ := hc_z
    refine ⟨_, e69_z, fun k2_z => ?_, fun k2_z => ?_, fun o q a_ b_ => by rw [e70_z]; exact ((fv68_z o q b_).trans ((up_ne (fun z => a_ z.1)).trans ((up_ne (fun z => a_ z.1)).trans ((up_ne (fun z => a_ z.1)).trans ((up_ne (fun z => a_ z.1)).trans ((up_ne (fun z => a_ z.1)).trans ((up_ne (fun z => a_ z.1)).trans ((up_ne (fun z => a_ z.1)).trans (rfl)))))))))⟩
    · exact xv68_z
    · exact absurd b63_z.1 k2_z
  · replace b63_z : ¬ kd = (2 : Int32) ∧ ¬ kd.toInt = (2 : Int32).toInt := b63_z
    replace hc_z := rn_aload (am_cur_of (i := (92, 2, .aload 4, (0, 0, 0), 0)) (by decide +kernel)) g4_z hc_z
    replace hc_z := rn_getR (x := 16) (am_cur_of (i := (94, 3, .getfield 72, (2, 6, 172), 0)) (by decide +kernel)) (by decide +kernel) hc_z
    replace hc_z := rn_iload_n (am_cur_of (i := (97, 1, .iload_n 1, (0, 0, 0), 0)) (by decide +kernel)) g1_z hc_z
    replace hc_z := rn_baload (N := 3) (q := kd.toNatClampNeg) (v := rg_v h 16 kd.toNatClampNeg) (am_cur_of (i := (98, 1, .baload, (0, 0, 0), 0)) (by decide +kernel)) (by decide +kernel) rfl ((rg_v_other (by omega)).trans ((rg_v_other (by omega)).trans ((rg_v_other (by omega)).trans ((rg_v_other (by omega)).trans ((rg_v_other (by omega)).trans ((rg_v_other (by omega)).trans (rfl))))))) hc_z
    obtain ⟨p71_z, hc_z⟩ := hc_z
    replace hc_z := rn_if (am_cur_of (i := (99, 3, .ifCond .eq 30, (70, 0, 0), 0)) (by decide +kernel)) hc_z
    rcases hc_z with ⟨b72_z, hc_z⟩ | ⟨b72_z, hc_z⟩
    · replace b72_z : (rg_v h 16 kd.toNatClampNeg) = (0 : Int32) ∧ (rg_v h 16 kd.toNatClampNeg).toInt = (0 : Int32).toInt := b72_z
      replace hc_z := rn_aload (am_cur_of (i := (129, 2, .aload 4, (0, 0, 0), 0)) (by decide +kernel)) g4_z hc_z
      replace hc_z := rn_getR (x := 17) (am_cur_of (i := (131, 3, .getfield 66, (2, 7, 174), 0)) (by decide +kernel)) (by decide +kernel) hc_z
      replace hc_z := rn_iconst (w := 5) (am_cur_of (i := (134, 1, .iconst 5, (0, 0, 0), 0)) (by decide +kernel)) (by decide) hc_z
      replace hc_z := rn_iload_n (am_cur_of (i := (135, 1, .iload_n 3, (0, 0, 0), 0)) (by decide +kernel)) g3_z hc_z
      replace hc_z := rn_i2l (w := br.toInt64) (am_cur_of (i := (136, 1, .i2l, (0, 0, 0), 0)) (by decide +kernel)) rfl hc_z
      replace hc_z := rn_lastore (N := 6) (q := 5) (am_cur_of (i := (137, 1, .lastore, (0, 0, 0), 0)) (by decide +kernel)) (by decide +kernel) rfl hc_z
      obtain ⟨p73_z, hc_z⟩ := hc_z
      replace hc_z := rn_aload (am_cur_of (i := (138, 2, .aload 4, (0, 0, 0), 0)) (by decide +kernel)) g4_z hc_z
      replace hc_z := rn_iload_n (am_cur_of (i := (140, 1, .iload_n 1, (0, 0, 0), 0)) (by decide +kernel)) g1_z hc_z
      replace hc_z := rn_callV (M' := am_m66) (o := 11) (ar := [.int kd]) (rest := []) (L := lv_args 0 [.ref 11, .int kd]) (am_cur_of (i := (141, 3, .invokevirtual 76, (66, 925, 3), 0)) (by decide +kernel)) rfl rfl rfl rfl hc_z
      obtain ⟨r74_z, h75_z, q76_z, hc_z⟩ := hc_z
      have Lv77 : LW 2 (am_up (am_up (am_up (am_up (am_up (am_up (am_up h 17 1 (.long F.toInt64)) 17 2 (.long ((Hd - F).toInt64))) 17 3 (.long o.toInt64)) 17 4 (.long S.toInt64)) 17 0 (.long 0)) 17 5 (.long 0)) 17 5 (.long br.toInt64)) g := LW_e (fun o q a_ b_ => (rg_v_other (by omega)).trans ((rg_v_other (by omega)).trans ((rg_v_other (by omega)).trans ((rg_v_other (by omega)).trans ((rg_v_other (by omega)).trans ((rg_v_other (by omega)).trans ((rg_v_other (by omega)).trans (rfl)))))))) (fun _ _ _ => rfl) L
      have hnv77 : ∀ q, q < 6 → rg_l (am_up (am_up (am_up (am_up (am_up (am_up (am_up h 17 1 (.long F.toInt64)) 17 2 (.long ((Hd - F).toInt64))) 17 3 (.long o.toInt64)) 17 4 (.long S.toInt64)) 17 0 (.long 0)) 17 5 (.long 0)) 17 5 (.long br.toInt64)) 17 q = eC 0 F (Hd - F) o S br q := by
        intro q hq_z
        match q, hq_z with
        | 0, _ => rfl
        | 1, _ => rfl
        | 2, _ => rfl
        | 3, _ => rfl
        | 4, _ => rfl
        | 5, _ => rfl
        | q + 6, hq_z => omega
      obtain ⟨wv77_z, rr, xv77_z, fv77_z⟩ := vw_66_2 (kd := kd) (Lv77 _ hk_z) (fun q hq_z => by rw [hnv77 q hq_z]; exact eC_b q) q76_z
      subst rr
      rw [lawX_N (N := fun q => rg_l (am_up (am_up (am_up (am_up (am_up (am_up (am_up h 17 1 (.long F.toInt64)) 17 2 (.long ((Hd - F).toInt64))) 17 3 (.long o.toInt64)) 17 4 (.long S.toInt64)) 17 0 (.long 0)) 17 5 (.long 0)) 17 5 (.long br.toInt64)) 17 q) (N' := eC 0 F (Hd - F) o S br) (Lv77 _ hk_z) (Or.inr (congrArg Int64.toInt (hnv77 0 (by decide)))) (fun q _ hq_z => congrArg Int64.toInt (hnv77 q hq_z)), lawX_e (h := h) (h' := (am_up (am_up (am_up (am_up (am_up (am_up (am_up h 17 1 (.long F.toInt64)) 17 2 (.long ((Hd - F).toInt64))) 17 3 (.long o.toInt64)) 17 4 (.long S.toInt64)) 17 0 (.long 0)) 17 5 (.long 0)) 17 5 (.long br.toInt64))) (fun o q a_ b_ => (rg_v_other (by omega)).trans ((rg_v_other (by omega)).trans ((rg_v_other (by omega)).trans ((rg_v_other (by omega)).trans ((rg_v_other (by omega)).trans ((rg_v_other (by omega)).trans ((rg_v_other (by omega)).trans (rfl))))))))] at xv77_z
      replace hc_z : rn _ _ _ _ [.long wv77_z] _ _ _ := hc_z
      replace hc_z := rn_lret (am_cur_of (i := (144, 1, .lreturn, (0, 0, 0), 0)) (by decide +kernel)) hc_z
      obtain ⟨e78_z, e79_z⟩ := hc_z
      refine ⟨_, e78_z, fun k2_z => ?_, fun k2_z => ?_, fun o q a_ b_ => by rw [e79_z]; exact ((fv77_z o q b_).trans ((up_ne (fun z => a_ z.1)).trans ((up_ne (fun z => a_ z.1)).trans ((up_ne (fun z => a_ z.1)).trans ((up_ne (fun z => a_ z.1)).trans ((up_ne (fun z => a_ z.1)).trans ((up_ne (fun z => a_ z.1)).trans ((up_ne (fun z => a_ z.1)).trans (rfl)))))))))⟩
      · exact absurd k2_z b63_z.1
      · rw [lawX_N (N' := eC 0 F (Hd - F) o S br) (L _ hk_z) (Or.inl b72_z.1) (fun q q1_z q6_z => by
          match q, q1_z, q6_z with
          | 1, _, _ => rfl
          | 2, _, _ => rfl
          | 3, _, _ => rfl
          | 4, _, _ => rfl
          | 5, _, _ => rfl
          | q + 6, _, z => exact absurd z (by omega))]
        exact xv77_z
    · replace b72_z : ¬ (rg_v h 16 kd.toNatClampNeg) = (0 : Int32) ∧ ¬ (rg_v h 16 kd.toNatClampNeg).toInt = (0 : Int32).toInt := b72_z
      replace hc_z := rn_aload_n (am_cur_of (i := (102, 1, .aload_n 0, (0, 0, 0), 0)) (by decide +kernel)) g0_z hc_z
      replace hc_z := rn_getI (v := U) (am_cur_of (i := (103, 3, .getfield 33, (8, 3, 575), 0)) (by decide +kernel)) (by decide +kernel) ((rg_v_other (by omega)).trans ((rg_v_other (by omega)).trans ((rg_v_other (by omega)).trans ((rg_v_other (by omega)).trans ((rg_v_other (by omega)).trans ((rg_v_other (by omega)).trans (eU))))))) hc_z
      replace hc_z := rn_if (am_cur_of (i := (106, 3, .ifCond .ne 23, (70, 0, 0), 0)) (by decide +kernel)) hc_z
      rcases hc_z with ⟨b80_z, hc_z⟩ | ⟨b80_z, hc_z⟩
      · replace b80_z : ¬ U = (0 : Int32) ∧ ¬ U.toInt = (0 : Int32).toInt := b80_z
        replace hc_z := rn_aload (am_cur_of (i := (129, 2, .aload 4, (0, 0, 0), 0)) (by decide +kernel)) g4_z hc_z
        replace hc_z := rn_getR (x := 17) (am_cur_of (i := (131, 3, .getfield 66, (2, 7, 174), 0)) (by decide +kernel)) (by decide +kernel) hc_z
        replace hc_z := rn_iconst (w := 5) (am_cur_of (i := (134, 1, .iconst 5, (0, 0, 0), 0)) (by decide +kernel)) (by decide) hc_z
        replace hc_z := rn_iload_n (am_cur_of (i := (135, 1, .iload_n 3, (0, 0, 0), 0)) (by decide +kernel)) g3_z hc_z
        replace hc_z := rn_i2l (w := br.toInt64) (am_cur_of (i := (136, 1, .i2l, (0, 0, 0), 0)) (by decide +kernel)) rfl hc_z
        replace hc_z := rn_lastore (N := 6) (q := 5) (am_cur_of (i := (137, 1, .lastore, (0, 0, 0), 0)) (by decide +kernel)) (by decide +kernel) rfl hc_z
        obtain ⟨p81_z, hc_z⟩ := hc_z
        replace hc_z := rn_aload (am_cur_of (i := (138, 2, .aload 4, (0, 0, 0), 0)) (by decide +kernel)) g4_z hc_z
        replace hc_z := rn_iload_n (am_cur_of (i := (140, 1, .iload_n 1, (0, 0, 0), 0)) (by decide +kernel)) g1_z hc_z
        replace hc_z := rn_callV (M' := am_m66) (o := 11) (ar := [.int kd]) (rest := []) (L := lv_args 0 [.ref 11, .int kd]) (am_cur_of (i := (141, 3, .invokevirtual 76, (66, 925, 3), 0)) (by decide +kernel)) rfl rfl rfl rfl hc_z
        obtain ⟨r82_z, h83_z, q84_z, hc_z⟩ := hc_z
        have Lv85 : LW 2 (am_up (am_up (am_up (am_up (am_up (am_up (am_up h 17 1 (.long F.toInt64)) 17 2 (.long ((Hd - F).toInt64))) 17 3 (.long o.toInt64)) 17 4 (.long S.toInt64)) 17 0 (.long 0)) 17 5 (.long 0)) 17 5 (.long br.toInt64)) g := LW_e (fun o q a_ b_ => (rg_v_other (by omega)).trans ((rg_v_other (by omega)).trans ((rg_v_other (by omega)).trans ((rg_v_other (by omega)).trans ((rg_v_other (by omega)).trans ((rg_v_other (by omega)).trans ((rg_v_other (by omega)).trans (rfl)))))))) (fun _ _ _ => rfl) L
        have hnv85 : ∀ q, q < 6 → rg_l (am_up (am_up (am_up (am_up (am_up (am_up (am_up h 17 1 (.long F.toInt64)) 17 2 (.long ((Hd - F).toInt64))) 17 3 (.long o.toInt64)) 17 4 (.long S.toInt64)) 17 0 (.long 0)) 17 5 (.long 0)) 17 5 (.long br.toInt64)) 17 q = eC 0 F (Hd - F) o S br q := by
          intro q hq_z
          match q, hq_z with
          | 0, _ => rfl
          | 1, _ => rfl
          | 2, _ => rfl
          | 3, _ => rfl
          | 4, _ => rfl
          | 5, _ => rfl
          | q + 6, hq_z => omega
        obtain ⟨wv85_z, rr, xv85_z, fv85_z⟩ := vw_66_2 (kd := kd) (Lv85 _ hk_z) (fun q hq_z => by rw [hnv85 q hq_z]; exact eC_b q) q84_z
        subst rr
        rw [lawX_N (N := fun q => rg_l (am_up (am_up (am_up (am_up (am_up (am_up (am_up h 17 1 (.long F.toInt64)) 17 2 (.long ((Hd - F).toInt64))) 17 3 (.long o.toInt64)) 17 4 (.long S.toInt64)) 17 0 (.long 0)) 17 5 (.long 0)) 17 5 (.long br.toInt64)) 17 q) (N' := eC 0 F (Hd - F) o S br) (Lv85 _ hk_z) (Or.inr (congrArg Int64.toInt (hnv85 0 (by decide)))) (fun q _ hq_z => congrArg Int64.toInt (hnv85 q hq_z)), lawX_e (h := h) (h' := (am_up (am_up (am_up (am_up (am_up (am_up (am_up h 17 1 (.long F.toInt64)) 17 2 (.long ((Hd - F).toInt64))) 17 3 (.long o.toInt64)) 17 4 (.long S.toInt64)) 17 0 (.long 0)) 17 5 (.long 0)) 17 5 (.long br.toInt64))) (fun o q a_ b_ => (rg_v_other (by omega)).trans ((rg_v_other (by omega)).trans ((rg_v_other (by omega)).trans ((rg_v_other (by omega)).trans ((rg_v_other (by omega)).trans ((rg_v_other (by omega)).trans ((rg_v_other (by omega)).trans (rfl))))))))] at xv85_z
        replace hc_z : rn _ _ _ _ [.long wv85_z] _ _ _ := hc_z
        replace hc_z := rn_lret (am_cur_of (i := (144, 1, .lreturn, (0, 0, 0), 0)) (by decide +kernel)) hc_z
        obtain ⟨e86_z, e87_z⟩ := hc_z
        refine ⟨_, e86_z, fun k2_z => ?_, fun k2_z => ?_, fun o q a_ b_ => by rw [e87_z]; exact ((fv85_z o q b_).trans ((up_ne (fun z => a_ z.1)).trans ((up_ne (fun z => a_ z.1)).trans ((up_ne (fun z => a_ z.1)).trans ((up_ne (fun z => a_ z.1)).trans ((up_ne (fun z => a_ z.1)).trans ((up_ne (fun z => a_ z.1)).trans ((up_ne (fun z => a_ z.1)).trans (rfl)))))))))⟩
        · exact absurd k2_z b63_z.1
        · rw [show ldX 2 h U F (Hd - F) o S = 0 from (ldX_e (by
            unfold ldZ
            rw [if_neg b80_z.1]
            decide)).symm]
          exact xv85_z
      · replace b80_z : U = (0 : Int32) ∧ U.toInt = (0 : Int32).toInt := b80_z
        replace hc_z := rn_aload (am_cur_of (i := (109, 2, .aload 4, (0, 0, 0), 0)) (by decide +kernel)) g4_z hc_z
        replace hc_z := rn_getR (x := 17) (am_cur_of (i := (111, 3, .getfield 66, (2, 7, 174), 0)) (by decide +kernel)) (by decide +kernel) hc_z
        replace hc_z := rn_iconst (w := 0) (am_cur_of (i := (114, 1, .iconst 0, (0, 0, 0), 0)) (by decide +kernel)) (by decide) hc_z
        replace hc_z := rn_aload (am_cur_of (i := (115, 2, .aload 4, (0, 0, 0), 0)) (by decide +kernel)) g4_z hc_z
        replace hc_z := rn_iconst (w := 2) (am_cur_of (i := (117, 1, .iconst 2, (0, 0, 0), 0)) (by decide +kernel)) (by decide) hc_z
        replace hc_z := rn_callV (M' := am_m66) (o := 11) (ar := [.int 2]) (rest := [.int 0, .ref 17]) (L := lv_args 0 [.ref 11, .int 2]) (am_cur_of (i := (118, 3, .invokevirtual 76, (66, 925, 3), 0)) (by decide +kernel)) rfl rfl rfl rfl hc_z
        obtain ⟨r88_z, h89_z, q90_z, hc_z⟩ := hc_z
        have Lv91 : LW 2 (am_up (am_up (am_up (am_up (am_up (am_up h 17 1 (.long F.toInt64)) 17 2 (.long ((Hd - F).toInt64))) 17 3 (.long o.toInt64)) 17 4 (.long S.toInt64)) 17 0 (.long 0)) 17 5 (.long 0)) g := LW_e (fun o q a_ b_ => (rg_v_other (by omega)).trans ((rg_v_other (by omega)).trans ((rg_v_other (by omega)).trans ((rg_v_other (by omega)).trans ((rg_v_other (by omega)).trans ((rg_v_other (by omega)).trans (rfl))))))) (fun _ _ _ => rfl) L
        have hnv91 : ∀ q, q < 6 → rg_l (am_up (am_up (am_up (am_up (am_up (am_up h 17 1 (.long F.toInt64)) 17 2 (.long ((Hd - F).toInt64))) 17 3 (.long o.toInt64)) 17 4 (.long S.toInt64)) 17 0 (.long 0)) 17 5 (.long 0)) 17 q = eC 0 F (Hd - F) o S 0 q := by
          intro q hq_z
          match q, hq_z with
          | 0, _ => rfl
          | 1, _ => rfl
          | 2, _ => rfl
          | 3, _ => rfl
          | 4, _ => rfl
          | 5, _ => rfl
          | q + 6, hq_z => omega
        obtain ⟨wv91_z, rr, xv91_z, fv91_z⟩ := vw_66_2 (kd := 2) (by rw [k2_z]; exact Lv91 2 (by decide)) (fun q hq_z => by rw [hnv91 q hq_z]; exact eC_b q) q90_z
        subst rr
        rw [k2_z] at xv91_z
        rw [lawX_N (N := fun q => rg_l (am_up (am_up (am_up (am_up (am_up (am_up h 17 1 (.long F.toInt64)) 17 2 (.long ((Hd - F).toInt64))) 17 3 (.long o.toInt64)) 17 4 (.long S.toInt64)) 17 0 (.long 0)) 17 5 (.long 0)) 17 q) (N' := eC 0 F (Hd - F) o S 0) (Lv91 2 (by decide)) (Or.inr (congrArg Int64.toInt (hnv91 0 (by decide)))) (fun q _ hq_z => congrArg Int64.toInt (hnv91 q hq_z)), lawX_e (h := h) (h' := (am_up (am_up (am_up (am_up (am_up (am_up h 17 1 (.long F.toInt64)) 17 2 (.long ((Hd - F).toInt64))) 17 3 (.long o.toInt64)) 17 4 (.long S.toInt64)) 17 0 (.long 0)) 17 5 (.long 0))) (fun o q a_ b_ => (rg_v_other (by omega)).trans ((rg_v_other (by omega)).trans ((rg_v_other (by omega)).trans ((rg_v_other (by omega)).trans ((rg_v_other (by omega)).trans ((rg_v_other (by omega)).trans (rfl)))))))] at xv91_z
        replace hc_z : rn _ _ _ _ [.long wv91_z, .int 0, .ref 17] _ _ _ := hc_z
        replace hc_z := rn_bipush (w := 99) (am_cur_of (i := (121, 2, .bipush 99, (0, 0, 0), 0)) (by decide +kernel)) (by decide) hc_z
        replace hc_z := rn_iconst (w := 0) (am_cur_of (i := (123, 1, .iconst 0, (0, 0, 0), 0)) (by decide +kernel)) (by decide) hc_z
        replace hc_z := rn_callS (M' := am_m68) (ar := [.int 0, .int 99, .long wv91_z]) (rest := [.int 0, .ref 17]) (L := lv_args 0 [.long wv91_z, .int 99, .int 0]) (am_cur_of (i := (124, 3, .invokestatic 80, (68, 935, 3), 0)) (by decide +kernel)) rfl rfl rfl rfl hc_z
        obtain ⟨r92_z, h93_z, q94_z, hc_z⟩ := hc_z
        obtain ⟨xl, rr, hh, xe⟩ := wi_68 xv91_z (fun z e => lawX_b (L 2 (by decide)) (fun q _ => eC_b q) e) (by decide) q94_z
        replace hh := hh.symm
        subst rr
        subst hh
        rw [z0_z, z99_z] at xe
        have el : xl = ldX 2 h U F (Hd - F) o S := ldX_e (by
          unfold ldZ
          rw [if_pos b80_z.1]
          exact xe)
        replace hc_z : rn _ _ _ _ [.int xl, .int 0, .ref 17] _ _ _ := hc_z
        replace hc_z := rn_i2l (w := xl.toInt64) (am_cur_of (i := (127, 1, .i2l, (0, 0, 0), 0)) (by decide +kernel)) rfl hc_z
        replace hc_z := rn_lastore (N := 6) (q := 0) (am_cur_of (i := (128, 1, .lastore, (0, 0, 0), 0)) (by decide +kernel)) (by decide +kernel) rfl hc_z
        obtain ⟨p95_z, hc_z⟩ := hc_z
        replace hc_z := rn_aload (am_cur_of (i := (129, 2, .aload 4, (0, 0, 0), 0)) (by decide +kernel)) g4_z hc_z
        replace hc_z := rn_getR (x := 17) (am_cur_of (i := (131, 3, .getfield 66, (2, 7, 174), 0)) (by decide +kernel)) (by decide +kernel) hc_z
        replace hc_z := rn_iconst (w := 5) (am_cur_of (i := (134, 1, .iconst 5, (0, 0, 0), 0)) (by decide +kernel)) (by decide) hc_z
        replace hc_z := rn_iload_n (am_cur_of (i := (135, 1, .iload_n 3, (0, 0, 0), 0)) (by decide +kernel)) g3_z hc_z
        replace hc_z := rn_i2l (w := br.toInt64) (am_cur_of (i := (136, 1, .i2l, (0, 0, 0), 0)) (by decide +kernel)) rfl hc_z
        replace hc_z := rn_lastore (N := 6) (q := 5) (am_cur_of (i := (137, 1, .lastore, (0, 0, 0), 0)) (by decide +kernel)) (by decide +kernel) rfl hc_z
        obtain ⟨p96_z, hc_z⟩ := hc_z
        replace hc_z := rn_aload (am_cur_of (i := (138, 2, .aload 4, (0, 0, 0), 0)) (by decide +kernel)) g4_z hc_z
        replace hc_z := rn_iload_n (am_cur_of (i := (140, 1, .iload_n 1, (0, 0, 0), 0)) (by decide +kernel)) g1_z hc_z
        replace hc_z := rn_callV (M' := am_m66) (o := 11) (ar := [.int kd]) (rest := []) (L := lv_args 0 [.ref 11, .int kd]) (am_cur_of (i := (141, 3, .invokevirtual 76, (66, 925, 3), 0)) (by decide +kernel)) rfl rfl rfl rfl hc_z
        obtain ⟨r97_z, h98_z, q99_z, hc_z⟩ := hc_z
        have Lv100 : LW 2 (am_up (am_up h89_z 17 0 (.long xl.toInt64)) 17 5 (.long br.toInt64)) g := LW_e (fun o q a_ b_ => (rg_v_other (by omega)).trans ((rg_v_other (by omega)).trans (rfl))) (fun _ _ _ => rfl) (LW_e (fun o q a_ b_ => lw_v (fv91_z o q (by omega))) (fun _ _ _ => rfl) Lv91)
        have hnv100 : ∀ q, q < 6 → rg_l (am_up (am_up h89_z 17 0 (.long xl.toInt64)) 17 5 (.long br.toInt64)) 17 q = eC xl F (Hd - F) o S br q := by
          intro q hq_z
          match q, hq_z with
          | 0, _ => rfl
          | 1, _ => exact (lw_l (fv91_z 17 1 (by decide))).trans rfl
          | 2, _ => exact (lw_l (fv91_z 17 2 (by decide))).trans rfl
          | 3, _ => exact (lw_l (fv91_z 17 3 (by decide))).trans rfl
          | 4, _ => exact (lw_l (fv91_z 17 4 (by decide))).trans rfl
          | 5, _ => rfl
          | q + 6, hq_z => omega
        obtain ⟨wv100_z, rr, xv100_z, fv100_z⟩ := vw_66_2 (kd := kd) (Lv100 _ hk_z) (fun q hq_z => by rw [hnv100 q hq_z]; exact eC_b q) q99_z
        subst rr
        rw [lawX_N (N := fun q => rg_l (am_up (am_up h89_z 17 0 (.long xl.toInt64)) 17 5 (.long br.toInt64)) 17 q) (N' := eC xl F (Hd - F) o S br) (Lv100 _ hk_z) (Or.inr (congrArg Int64.toInt (hnv100 0 (by decide)))) (fun q _ hq_z => congrArg Int64.toInt (hnv100 q hq_z)), lawX_e (h := h) (h' := (am_up (am_up h89_z 17 0 (.long xl.toInt64)) 17 5 (.long br.toInt64))) (fun o q a_ b_ => (rg_v_other (by omega)).trans ((rg_v_other (by omega)).trans ((lw_v (fv91_z o q (by omega))).trans ((rg_v_other (by omega)).trans ((rg_v_other (by omega)).trans ((rg_v_other (by omega)).trans ((rg_v_other (by omega)).trans ((rg_v_other (by omega)).trans ((rg_v_other (by omega)).trans (rfl))))))))))] at xv100_z
        replace hc_z : rn _ _ _ _ [.long wv100_z] _ _ _ := hc_z
        replace hc_z := rn_lret (am_cur_of (i := (144, 1, .lreturn, (0, 0, 0), 0)) (by decide +kernel)) hc_z
        obtain ⟨e101_z, e102_z⟩ := hc_z
        refine ⟨_, e101_z, fun k2_z => ?_, fun k2_z => ?_, fun o q a_ b_ => by rw [e102_z]; exact ((fv100_z o q b_).trans ((up_ne (fun z => a_ z.1)).trans ((up_ne (fun z => a_ z.1)).trans (((fv91_z o q b_).trans ((up_ne (fun z => a_ z.1)).trans ((up_ne (fun z => a_ z.1)).trans ((up_ne (fun z => a_ z.1)).trans ((up_ne (fun z => a_ z.1)).trans ((up_ne (fun z => a_ z.1)).trans ((up_ne (fun z => a_ z.1)).trans (rfl))))))))))))⟩
        · exact absurd k2_z b63_z.1
        · rw [← el]
          exact xv100_z
theorem wo_65_148_23 {n : Nat} {r : Option Value} {h h' g : am_H} {kd o br F S Hd U : Int32} (D : h 148 0 = .ref 23) (L : LW 23 h g) (eF : rg_v h 149 0 = F) (eS : rg_v h 149 1 = S) (eH : rg_v h 23 0 = Hd) (eU : rg_v h 148 3 = U) (hk_z : kd.toNatClampNeg < 3) (hc_z : rn n am_m65 0 (lv_args 0 [.ref 148, .int kd, .int o, .int br]) [] h r h') : ∃ w : Int64, r = some (.long w) ∧ (kd = 2 → lR (lawX 23 h kd.toNatClampNeg (eC 0 F (Hd - F) o S br)) w.toInt) ∧ (¬ kd = 2 → lR (lawX 23 h kd.toNatClampNeg (eC (ldX 23 h U F (Hd - F) o S) F (Hd - F) o S br)) w.toInt) ∧ ∀ o q, ¬ o = 38 → ¬ o = 39 → h' o q = h o q := by
  have z0_z : (0 : Int32).toInt = 0 := by decide
  have z2_z : (2 : Int32).toInt = 2 := by decide
  have z99_z : (99 : Int32).toInt = 99 := by decide
  have k2_z : (2 : Int32).toNatClampNeg = 2 := by decide
  have g0_z : am_get (lv_args 0 [.ref 148, .int kd, .int o, .int br]) 0 = some (.ref 148) := rfl
  have g1_z : am_get (lv_args 0 [.ref 148, .int kd, .int o, .int br]) 1 = some (.int kd) := rfl
  have g2_z : am_get (lv_args 0 [.ref 148, .int kd, .int o, .int br]) 2 = some (.int o) := rfl
  have g3_z : am_get (lv_args 0 [.ref 148, .int kd, .int o, .int br]) 3 = some (.int br) := rfl
  replace hc_z := rn_aload_n (am_cur_of (i := (0, 1, .aload_n 0, (0, 0, 0), 0)) (by decide +kernel)) g0_z hc_z
  replace hc_z := rn_getM (x := 23) (am_cur_of (i := (1, 3, .getfield 18, (8, 0, 566), 0)) (by decide +kernel)) D hc_z
  replace hc_z := rn_getR (x := 32) (am_cur_of (i := (4, 3, .getfield 62, (1, 19, 315), 0)) (by decide +kernel)) (by decide +kernel) hc_z
  replace hc_z := rn_astore (am_cur_of (i := (7, 2, .astore 4, (0, 0, 0), 0)) (by decide +kernel)) hc_z
  obtain ⟨_, s103_z, s104_z, g4_z, hc_z⟩ := hc_z
  replace g0_z := s103_z 0 _ (by decide) rfl g0_z
  replace g1_z := s103_z 1 _ (by decide) rfl g1_z
  replace g2_z := s103_z 2 _ (by decide) rfl g2_z
  replace g3_z := s103_z 3 _ (by decide) rfl g3_z
  clear s103_z s104_z
  replace hc_z := rn_aload (am_cur_of (i := (9, 2, .aload 4, (0, 0, 0), 0)) (by decide +kernel)) g4_z hc_z
  replace hc_z := rn_getR (x := 38) (am_cur_of (i := (11, 3, .getfield 66, (2, 7, 174), 0)) (by decide +kernel)) (by decide +kernel) hc_z
  replace hc_z := rn_iconst (w := 1) (am_cur_of (i := (14, 1, .iconst 1, (0, 0, 0), 0)) (by decide +kernel)) (by decide) hc_z
  replace hc_z := rn_aload_n (am_cur_of (i := (15, 1, .aload_n 0, (0, 0, 0), 0)) (by decide +kernel)) g0_z hc_z
  replace hc_z := rn_getR (x := 149) (am_cur_of (i := (16, 3, .getfield 12, (8, 1, 569), 0)) (by decide +kernel)) (by decide +kernel) hc_z
  replace hc_z := rn_getI (v := F) (am_cur_of (i := (19, 3, .getfield 49, (5, 0, 463), 0)) (by decide +kernel)) (by decide +kernel) eF hc_z
  replace hc_z := rn_i2l (w := F.toInt64) (am_cur_of (i := (22, 1, .i2l, (0, 0, 0), 0)) (by decide +kernel)) rfl hc_z
  replace hc_z := rn_lastore (N := 6) (q := 1) (am_cur_of (i := (23, 1, .lastore, (0, 0, 0), 0)) (by decide +kernel)) (by decide +kernel) rfl hc_z
  obtain ⟨p105_z, hc_z⟩ := hc_z
  replace hc_z := rn_aload (am_cur_of (i := (24, 2, .aload 4, (0, 0, 0), 0)) (by decide +kernel)) g4_z hc_z
  replace hc_z := rn_getR (x := 38) (am_cur_of (i := (26, 3, .getfield 66, (2, 7, 174), 0)) (by decide +kernel)) (by decide +kernel) hc_z
  replace hc_z := rn_iconst (w := 2) (am_cur_of (i := (29, 1, .iconst 2, (0, 0, 0), 0)) (by decide +kernel)) (by decide) hc_z
  replace hc_z := rn_aload_n (am_cur_of (i := (30, 1, .aload_n 0, (0, 0, 0), 0)) (by decide +kernel)) g0_z hc_z
  replace hc_z := rn_getM (x := 23) (am_cur_of (i := (31, 3, .getfield 18, (8, 0, 566), 0)) (by decide +kernel)) (show (am_up h 38 1 (.long F.toInt64)) 148 0 = .ref 23 from D) hc_z
  replace hc_z := rn_getI (v := Hd) (am_cur_of (i := (34, 3, .getfield 52, (1, 0, 249), 0)) (by decide +kernel)) (by decide +kernel) ((rg_v_other (by omega)).trans (eH)) hc_z
  replace hc_z := rn_aload_n (am_cur_of (i := (37, 1, .aload_n 0, (0, 0, 0), 0)) (by decide +kernel)) g0_z hc_z
  replace hc_z := rn_getR (x := 149) (am_cur_of (i := (38, 3, .getfield 12, (8, 1, 569), 0)) (by decide +kernel)) (by decide +kernel) hc_z
  replace hc_z := rn_getI (v := F) (am_cur_of (i := (41, 3, .getfield 49, (5, 0, 463), 0)) (by decide +kernel)) (by decide +kernel) ((rg_v_other (by omega)).trans (eF)) hc_z
  replace hc_z := rn_isub (w := Hd - F) (am_cur_of (i := (44, 1, .isub, (0, 0, 0), 0)) (by decide +kernel)) rfl hc_z
  replace hc_z := rn_i2l (w := (Hd - F).toInt64) (am_cur_of (i := (45, 1, .i2l, (0, 0, 0), 0)) (by decide +kernel)) rfl hc_z
  replace hc_z := rn_lastore (N := 6) (q := 2) (am_cur_of (i := (46, 1, .lastore, (0, 0, 0), 0)) (by decide +kernel)) (by decide +kernel) rfl hc_z
  obtain ⟨p106_z, hc_z⟩ := hc_z
  replace hc_z := rn_aload (am_cur_of (i := (47, 2, .aload 4, (0, 0, 0), 0)) (by decide +kernel)) g4_z hc_z
  replace hc_z := rn_getR (x := 38) (am_cur_of (i := (49, 3, .getfield 66, (2, 7, 174), 0)) (by decide +kernel)) (by decide +kernel) hc_z
  replace hc_z := rn_iconst (w := 3) (am_cur_of (i := (52, 1, .iconst 3, (0, 0, 0), 0)) (by decide +kernel)) (by decide) hc_z
  replace hc_z := rn_iload_n (am_cur_of (i := (53, 1, .iload_n 2, (0, 0, 0), 0)) (by decide +kernel)) g2_z hc_z
  replace hc_z := rn_i2l (w := o.toInt64) (am_cur_of (i := (54, 1, .i2l, (0, 0, 0), 0)) (by decide +kernel)) rfl hc_z
  replace hc_z := rn_lastore (N := 6) (q := 3) (am_cur_of (i := (55, 1, .lastore, (0, 0, 0), 0)) (by decide +kernel)) (by decide +kernel) rfl hc_z
  obtain ⟨p107_z, hc_z⟩ := hc_z
  replace hc_z := rn_aload (am_cur_of (i := (56, 2, .aload 4, (0, 0, 0), 0)) (by decide +kernel)) g4_z hc_z
  replace hc_z := rn_getR (x := 38) (am_cur_of (i := (58, 3, .getfield 66, (2, 7, 174), 0)) (by decide +kernel)) (by decide +kernel) hc_z
  replace hc_z := rn_iconst (w := 4) (am_cur_of (i := (61, 1, .iconst 4, (0, 0, 0), 0)) (by decide +kernel)) (by decide) hc_z
  replace hc_z := rn_aload_n (am_cur_of (i := (62, 1, .aload_n 0, (0, 0, 0), 0)) (by decide +kernel)) g0_z hc_z
  replace hc_z := rn_getR (x := 149) (am_cur_of (i := (63, 3, .getfield 12, (8, 1, 569), 0)) (by decide +kernel)) (by decide +kernel) hc_z
  replace hc_z := rn_getI (v := S) (am_cur_of (i := (66, 3, .getfield 59, (5, 1, 470), 0)) (by decide +kernel)) (by decide +kernel) ((rg_v_other (by omega)).trans ((rg_v_other (by omega)).trans ((rg_v_other (by omega)).trans (eS)))) hc_z
  replace hc_z := rn_i2l (w := S.toInt64) (am_cur_of (i := (69, 1, .i2l, (0, 0, 0), 0)) (by decide +kernel)) rfl hc_z
  replace hc_z := rn_lastore (N := 6) (q := 4) (am_cur_of (i := (70, 1, .lastore, (0, 0, 0), 0)) (by decide +kernel)) (by decide +kernel) rfl hc_z
  obtain ⟨p108_z, hc_z⟩ := hc_z
  replace hc_z := rn_aload (am_cur_of (i := (71, 2, .aload 4, (0, 0, 0), 0)) (by decide +kernel)) g4_z hc_z
  replace hc_z := rn_getR (x := 38) (am_cur_of (i := (73, 3, .getfield 66, (2, 7, 174), 0)) (by decide +kernel)) (by decide +kernel) hc_z
  replace hc_z := rn_iconst (w := 0) (am_cur_of (i := (76, 1, .iconst 0, (0, 0, 0), 0)) (by decide +kernel)) (by decide) hc_z
  replace hc_z := rn_lconst (w := 0) (am_cur_of (i := (77, 1, .lconst 0, (0, 0, 0), 0)) (by decide +kernel)) rfl hc_z
  replace hc_z := rn_lastore (N := 6) (q := 0) (am_cur_of (i := (78, 1, .lastore, (0, 0, 0), 0)) (by decide +kernel)) (by decide +kernel) rfl hc_z
  obtain ⟨p109_z, hc_z⟩ := hc_z
  replace hc_z := rn_aload (am_cur_of (i := (79, 2, .aload 4, (0, 0, 0), 0)) (by decide +kernel)) g4_z hc_z
  replace hc_z := rn_getR (x := 38) (am_cur_of (i := (81, 3, .getfield 66, (2, 7, 174), 0)) (by decide +kernel)) (by decide +kernel) hc_z
  replace hc_z := rn_iconst (w := 5) (am_cur_of (i := (84, 1, .iconst 5, (0, 0, 0), 0)) (by decide +kernel)) (by decide) hc_z
  replace hc_z := rn_lconst (w := 0) (am_cur_of (i := (85, 1, .lconst 0, (0, 0, 0), 0)) (by decide +kernel)) rfl hc_z
  replace hc_z := rn_lastore (N := 6) (q := 5) (am_cur_of (i := (86, 1, .lastore, (0, 0, 0), 0)) (by decide +kernel)) (by decide +kernel) rfl hc_z
  obtain ⟨p110_z, hc_z⟩ := hc_z
  replace hc_z := rn_iload_n (am_cur_of (i := (87, 1, .iload_n 1, (0, 0, 0), 0)) (by decide +kernel)) g1_z hc_z
  replace hc_z := rn_iconst (w := 2) (am_cur_of (i := (88, 1, .iconst 2, (0, 0, 0), 0)) (by decide +kernel)) (by decide) hc_z
  replace hc_z := rn_cmp (am_cur_of (i := (89, 3, .if_icmp .eq 40, (70, 0, 0), 0)) (by decide +kernel)) hc_z
  rcases hc_z with ⟨b111_z, hc_z⟩ | ⟨b111_z, hc_z⟩
  · replace b111_z : kd = (2 : Int32) ∧ kd.toInt = (2 : Int32).toInt := b111_z
    replace hc_z := rn_aload (am_cur_of (i := (129, 2, .aload 4, (0, 0, 0), 0)) (by decide +kernel)) g4_z hc_z
    replace hc_z := rn_getR (x := 38) (am_cur_of (i := (131, 3, .getfield 66, (2, 7, 174), 0)) (by decide +kernel)) (by decide +kernel) hc_z
    replace hc_z := rn_iconst (w := 5) (am_cur_of (i := (134, 1, .iconst 5, (0, 0, 0), 0)) (by decide +kernel)) (by decide) hc_z
    replace hc_z := rn_iload_n (am_cur_of (i := (135, 1, .iload_n 3, (0, 0, 0), 0)) (by decide +kernel)) g3_z hc_z
    replace hc_z := rn_i2l (w := br.toInt64) (am_cur_of (i := (136, 1, .i2l, (0, 0, 0), 0)) (by decide +kernel)) rfl hc_z
    replace hc_z := rn_lastore (N := 6) (q := 5) (am_cur_of (i := (137, 1, .lastore, (0, 0, 0), 0)) (by decide +kernel)) (by decide +kernel) rfl hc_z
    obtain ⟨p112_z, hc_z⟩ := hc_z
    replace hc_z := rn_aload (am_cur_of (i := (138, 2, .aload 4, (0, 0, 0), 0)) (by decide +kernel)) g4_z hc_z
    replace hc_z := rn_iload_n (am_cur_of (i := (140, 1, .iload_n 1, (0, 0, 0), 0)) (by decide +kernel)) g1_z hc_z
    replace hc_z := rn_callV (M' := am_m66) (o := 32) (ar := [.int kd]) (rest := []) (L := lv_args 0 [.ref 32, .int kd]) (am_cur_of (i := (141, 3, .invokevirtual 76, (66, 925, 3), 0)) (by decide +kernel)) rfl rfl rfl rfl hc_z
    obtain ⟨r113_z, h114_z, q115_z, hc_z⟩ := hc_z
    have Lv116 : LW 23 (am_up (am_up (am_up (am_up (am_up (am_up (am_up h 38 1 (.long F.toInt64)) 38 2 (.long ((Hd - F).toInt64))) 38 3 (.long o.toInt64)) 38 4 (.long S.toInt64)) 38 0 (.long 0)) 38 5 (.long 0)) 38 5 (.long br.toInt64)) g := LW_e (fun o q a_ b_ => (rg_v_other (by omega)).trans ((rg_v_other (by omega)).trans ((rg_v_other (by omega)).trans ((rg_v_other (by omega)).trans ((rg_v_other (by omega)).trans ((rg_v_other (by omega)).trans ((rg_v_other (by omega)).trans (rfl)))))))) (fun _ _ _ => rfl) L
    have hnv116 : ∀ q, q < 6 → rg_l (am_up (am_up (am_up (am_up (am_up (am_up (am_up h 38 1 (.long F.toInt64)) 38 2 (.long ((Hd - F).toInt64))) 38 3 (.long o.toInt64)) 38 4 (.long S.toInt64)) 38 0 (.long 0)) 38 5 (.long 0)) 38 5 (.long br.toInt64)) 38 q = eC 0 F (Hd - F) o S br q := by
      intro q hq_z
      match q, hq_z with
      | 0, _ => rfl
      | 1, _ => rfl
      | 2, _ => rfl
      | 3, _ => rfl
      | 4, _ => rfl
      | 5, _ => rfl
      | q + 6, hq_z => omega
    obtain ⟨wv116_z, rr, xv116_z, fv116_z⟩ := vw_66_23 (kd := kd) (Lv116 _ hk_z) (fun q hq_z => by rw [hnv116 q hq_z]; exact eC_b q) q115_z
    subst rr
    rw [lawX_N (N := fun q => rg_l (am_up (am_up (am_up (am_up (am_up (am_up (am_up h 38 1 (.long F.toInt64)) 38 2 (.long ((Hd - F).toInt64))) 38 3 (.long o.toInt64)) 38 4 (.long S.toInt64)) 38 0 (.long 0)) 38 5 (.long 0)) 38 5 (.long br.toInt64)) 38 q) (N' := eC 0 F (Hd - F) o S br) (Lv116 _ hk_z) (Or.inr (congrArg Int64.toInt (hnv116 0 (by decide)))) (fun q _ hq_z => congrArg Int64.toInt (hnv116 q hq_z)), lawX_e (h := h) (h' := (am_up (am_up (am_up (am_up (am_up (am_up (am_up h 38 1 (.long F.toInt64)) 38 2 (.long ((Hd - F).toInt64))) 38 3 (.long o.toInt64)) 38 4 (.long S.toInt64)) 38 0 (.long 0)) 38 5 (.long 0)) 38 5 (.long br.toInt64))) (fun o q a_ b_ => (rg_v_other (by omega)).trans ((rg_v_other (by omega)).trans ((rg_v_other (by omega)).trans ((rg_v_other (by omega)).trans ((rg_v_other (by omega)).trans ((rg_v_other (by omega)).trans ((rg_v_other (by omega)).trans (rfl))))))))] at xv116_z
    replace hc_z : rn _ _ _ _ [.long wv116_z] _ _ _ := hc_z
    replace hc_z := rn_lret (am_cur_of (i := (144, 1, .lreturn, (0, 0, 0), 0)) (by decide +kernel)) hc_z
    obtain ⟨e117_z, e118_z⟩ := hc_z
    refine ⟨_, e117_z, fun k2_z => ?_, fun k2_z => ?_, fun o q a_ b_ => by rw [e118_z]; exact ((fv116_z o q b_).trans ((up_ne (fun z => a_ z.1)).trans ((up_ne (fun z => a_ z.1)).trans ((up_ne (fun z => a_ z.1)).trans ((up_ne (fun z => a_ z.1)).trans ((up_ne (fun z => a_ z.1)).trans ((up_ne (fun z => a_ z.1)).trans ((up_ne (fun z => a_ z.1)).trans (rfl)))))))))⟩
    · exact xv116_z
    · exact absurd b111_z.1 k2_z
  · replace b111_z : ¬ kd = (2 : Int32) ∧ ¬ kd.toInt = (2 : Int32).toInt := b111_z
    replace hc_z := rn_aload (am_cur_of (i := (92, 2, .aload 4, (0, 0, 0), 0)) (by decide +kernel)) g4_z hc_z
    replace hc_z := rn_getR (x := 37) (am_cur_of (i := (94, 3, .getfield 72, (2, 6, 172), 0)) (by decide +kernel)) (by decide +kernel) hc_z
    replace hc_z := rn_iload_n (am_cur_of (i := (97, 1, .iload_n 1, (0, 0, 0), 0)) (by decide +kernel)) g1_z hc_z
    replace hc_z := rn_baload (N := 3) (q := kd.toNatClampNeg) (v := rg_v h 37 kd.toNatClampNeg) (am_cur_of (i := (98, 1, .baload, (0, 0, 0), 0)) (by decide +kernel)) (by decide +kernel) rfl ((rg_v_other (by omega)).trans ((rg_v_other (by omega)).trans ((rg_v_other (by omega)).trans ((rg_v_other (by omega)).trans ((rg_v_other (by omega)).trans ((rg_v_other (by omega)).trans (rfl))))))) hc_z
    obtain ⟨p119_z, hc_z⟩ := hc_z
    replace hc_z := rn_if (am_cur_of (i := (99, 3, .ifCond .eq 30, (70, 0, 0), 0)) (by decide +kernel)) hc_z
    rcases hc_z with ⟨b120_z, hc_z⟩ | ⟨b120_z, hc_z⟩
    · replace b120_z : (rg_v h 37 kd.toNatClampNeg) = (0 : Int32) ∧ (rg_v h 37 kd.toNatClampNeg).toInt = (0 : Int32).toInt := b120_z
      replace hc_z := rn_aload (am_cur_of (i := (129, 2, .aload 4, (0, 0, 0), 0)) (by decide +kernel)) g4_z hc_z
      replace hc_z := rn_getR (x := 38) (am_cur_of (i := (131, 3, .getfield 66, (2, 7, 174), 0)) (by decide +kernel)) (by decide +kernel) hc_z
      replace hc_z := rn_iconst (w := 5) (am_cur_of (i := (134, 1, .iconst 5, (0, 0, 0), 0)) (by decide +kernel)) (by decide) hc_z
      replace hc_z := rn_iload_n (am_cur_of (i := (135, 1, .iload_n 3, (0, 0, 0), 0)) (by decide +kernel)) g3_z hc_z
      replace hc_z := rn_i2l (w := br.toInt64) (am_cur_of (i := (136, 1, .i2l, (0, 0, 0), 0)) (by decide +kernel)) rfl hc_z
      replace hc_z := rn_lastore (N := 6) (q := 5) (am_cur_of (i := (137, 1, .lastore, (0, 0, 0), 0)) (by decide +kernel)) (by decide +kernel) rfl hc_z
      obtain ⟨p121_z, hc_z⟩ := hc_z
      replace hc_z := rn_aload (am_cur_of (i := (138, 2, .aload 4, (0, 0, 0), 0)) (by decide +kernel)) g4_z hc_z
      replace hc_z := rn_iload_n (am_cur_of (i := (140, 1, .iload_n 1, (0, 0, 0), 0)) (by decide +kernel)) g1_z hc_z
      replace hc_z := rn_callV (M' := am_m66) (o := 32) (ar := [.int kd]) (rest := []) (L := lv_args 0 [.ref 32, .int kd]) (am_cur_of (i := (141, 3, .invokevirtual 76, (66, 925, 3), 0)) (by decide +kernel)) rfl rfl rfl rfl hc_z
      obtain ⟨r122_z, h123_z, q124_z, hc_z⟩ := hc_z
      have Lv125 : LW 23 (am_up (am_up (am_up (am_up (am_up (am_up (am_up h 38 1 (.long F.toInt64)) 38 2 (.long ((Hd - F).toInt64))) 38 3 (.long o.toInt64)) 38 4 (.long S.toInt64)) 38 0 (.long 0)) 38 5 (.long 0)) 38 5 (.long br.toInt64)) g := LW_e (fun o q a_ b_ => (rg_v_other (by omega)).trans ((rg_v_other (by omega)).trans ((rg_v_other (by omega)).trans ((rg_v_other (by omega)).trans ((rg_v_other (by omega)).trans ((rg_v_other (by omega)).trans ((rg_v_other (by omega)).trans (rfl)))))))) (fun _ _ _ => rfl) L
      have hnv125 : ∀ q, q < 6 → rg_l (am_up (am_up (am_up (am_up (am_up (am_up (am_up h 38 1 (.long F.toInt64)) 38 2 (.long ((Hd - F).toInt64))) 38 3 (.long o.toInt64)) 38 4 (.long S.toInt64)) 38 0 (.long 0)) 38 5 (.long 0)) 38 5 (.long br.toInt64)) 38 q = eC 0 F (Hd - F) o S br q := by
        intro q hq_z
        match q, hq_z with
        | 0, _ => rfl
        | 1, _ => rfl
        | 2, _ => rfl
        | 3, _ => rfl
        | 4, _ => rfl
        | 5, _ => rfl
        | q + 6, hq_z => omega
      obtain ⟨wv125_z, rr, xv125_z, fv125_z⟩ := vw_66_23 (kd := kd) (Lv125 _ hk_z) (fun q hq_z => by rw [hnv125 q hq_z]; exact eC_b q) q124_z
      subst rr
      rw [lawX_N (N := fun q => rg_l (am_up (am_up (am_up (am_up (am_up (am_up (am_up h 38 1 (.long F.toInt64)) 38 2 (.long ((Hd - F).toInt64))) 38 3 (.long o.toInt64)) 38 4 (.long S.toInt64)) 38 0 (.long 0)) 38 5 (.long 0)) 38 5 (.long br.toInt64)) 38 q) (N' := eC 0 F (Hd - F) o S br) (Lv125 _ hk_z) (Or.inr (congrArg Int64.toInt (hnv125 0 (by decide)))) (fun q _ hq_z => congrArg Int64.toInt (hnv125 q hq_z)), lawX_e (h := h) (h' := (am_up (am_up (am_up (am_up (am_up (am_up (am_up h 38 1 (.long F.toInt64)) 38 2 (.long ((Hd - F).toInt64))) 38 3 (.long o.toInt64)) 38 4 (.long S.toInt64)) 38 0 (.long 0)) 38 5 (.long 0)) 38 5 (.long br.toInt64))) (fun o q a_ b_ => (rg_v_other (by omega)).trans ((rg_v_other (by omega)).trans ((rg_v_other (by omega)).trans ((rg_v_other (by omega)).trans ((rg_v_other (by omega)).trans ((rg_v_other (by omega)).trans ((rg_v_other (by omega)).trans (rfl))))))))] at xv125_z
      replace hc_z : rn _ _ _ _ [.long wv125_z] _ _ _ := hc_z
      replace hc_z := rn_lret (am_cur_of (i := (144, 1, .lreturn, (0, 0, 0), 0)) (by decide +kernel)) hc_z
      obtain ⟨e126_z, e127_z⟩ := hc_z
      refine ⟨_, e126_z, fun k2_z => ?_, fun k2_z => ?_, fun o q a_ b_ => by rw [e127_z]; exact ((fv125_z o q b_).trans ((up_ne (fun z => a_ z.1)).trans ((up_ne (fun z => a_ z.1)).trans ((up_ne (fun z => a_ z.1)).trans ((up_ne (fun z => a_ z.1)).trans ((up_ne (fun z => a_ z.1)).trans ((up_ne (fun z => a_ z.1)).trans ((up_ne (fun z => a_ z.1)).trans (rfl)))))))))⟩
      · exact absurd k2_z b111_z.1
      · rw [lawX_N (N' := eC 0 F (Hd - F) o S br) (L _ hk_z) (Or.inl b120_z.1) (fun q q1_z q6_z => by
          match q, q1_z, q6_z with
          | 1, _, _ => rfl
          | 2, _, _ => rfl
          | 3, _, _ => rfl
          | 4, _, _ => rfl
          | 5, _, _ => rfl
          | q + 6, _, z => exact absurd z (by omega))]
        exact xv125_z
    · replace b120_z : ¬ (rg_v h 37 kd.toNatClampNeg) = (0 : Int32) ∧ ¬ (rg_v h 37 kd.toNatClampNeg).toInt = (0 : Int32).toInt := b120_z
      replace hc_z := rn_aload_n (am_cur_of (i := (102, 1, .aload_n 0, (0, 0, 0), 0)) (by decide +kernel)) g0_z hc_z
      replace hc_z := rn_getI (v := U) (am_cur_of (i := (103, 3, .getfield 33, (8, 3, 575), 0)) (by decide +kernel)) (by decide +kernel) ((rg_v_other (by omega)).trans ((rg_v_other (by omega)).trans ((rg_v_other (by omega)).trans ((rg_v_other (by omega)).trans ((rg_v_other (by omega)).trans ((rg_v_other (by omega)).trans (eU))))))) hc_z
      replace hc_z := rn_if (am_cur_of (i := (106, 3, .ifCond .ne 23, (70, 0, 0), 0)) (by decide +kernel)) hc_z
      rcases hc_z with ⟨b128_z, hc_z⟩ | ⟨b128_z, hc_z⟩
      · replace b128_z : ¬ U = (0 : Int32) ∧ ¬ U.toInt = (0 : Int32).toInt := b128_z
        replace hc_z := rn_aload (am_cur_of (i := (129, 2, .aload 4, (0, 0, 0), 0)) (by decide +kernel)) g4_z hc_z
        replace hc_z := rn_getR (x := 38) (am_cur_of (i := (131, 3, .getfield 66, (2, 7, 174), 0)) (by decide +kernel)) (by decide +kernel) hc_z
        replace hc_z := rn_iconst (w := 5) (am_cur_of (i := (134, 1, .iconst 5, (0, 0, 0), 0)) (by decide +kernel)) (by decide) hc_z
        replace hc_z := rn_iload_n (am_cur_of (i := (135, 1, .iload_n 3, (0, 0, 0), 0)) (by decide +kernel)) g3_z hc_z
        replace hc_z := rn_i2l (w := br.toInt64) (am_cur_of (i := (136, 1, .i2l, (0, 0, 0), 0)) (by decide +kernel)) rfl hc_z
        replace hc_z := rn_lastore (N := 6) (q := 5) (am_cur_of (i := (137, 1, .lastore, (0, 0, 0), 0)) (by decide +kernel)) (by decide +kernel) rfl hc_z
        obtain ⟨p129_z, hc_z⟩ := hc_z
        replace hc_z := rn_aload (am_cur_of (i := (138, 2, .aload 4, (0, 0, 0), 0)) (by decide +kernel)) g4_z hc_z
        replace hc_z := rn_iload_n (am_cur_of (i := (140, 1, .iload_n 1, (0, 0, 0), 0)) (by decide +kernel)) g1_z hc_z
        replace hc_z := rn_callV (M' := am_m66) (o := 32) (ar := [.int kd]) (rest := []) (L := lv_args 0 [.ref 32, .int kd]) (am_cur_of (i := (141, 3, .invokevirtual 76, (66, 925, 3), 0)) (by decide +kernel)) rfl rfl rfl rfl hc_z
        obtain ⟨r130_z, h131_z, q132_z, hc_z⟩ := hc_z
        have Lv133 : LW 23 (am_up (am_up (am_up (am_up (am_up (am_up (am_up h 38 1 (.long F.toInt64)) 38 2 (.long ((Hd - F).toInt64))) 38 3 (.long o.toInt64)) 38 4 (.long S.toInt64)) 38 0 (.long 0)) 38 5 (.long 0)) 38 5 (.long br.toInt64)) g := LW_e (fun o q a_ b_ => (rg_v_other (by omega)).trans ((rg_v_other (by omega)).trans ((rg_v_other (by omega)).trans ((rg_v_other (by omega)).trans ((rg_v_other (by omega)).trans ((rg_v_other (by omega)).trans ((rg_v_other (by omega)).trans (rfl)))))))) (fun _ _ _ => rfl) L
        have hnv133 : ∀ q, q < 6 → rg_l (am_up (am_up (am_up (am_up (am_up (am_up (am_up h 38 1 (.long F.toInt64)) 38 2 (.long ((Hd - F).toInt64))) 38 3 (.long o.toInt64)) 38 4 (.long S.toInt64)) 38 0 (.long 0)) 38 5 (.long 0)) 38 5 (.long br.toInt64)) 38 q = eC 0 F (Hd - F) o S br q := by
          intro q hq_z
          match q, hq_z with
          | 0, _ => rfl
          | 1, _ => rfl
          | 2, _ => rfl
          | 3, _ => rfl
          | 4, _ => rfl
          | 5, _ => rfl
          | q + 6, hq_z => omega
        obtain ⟨wv133_z, rr, xv133_z, fv133_z⟩ := vw_66_23 (kd := kd) (Lv133 _ hk_z) (fun q hq_z => by rw [hnv133 q hq_z]; exact eC_b q) q132_z
        subst rr
        rw [lawX_N (N := fun q => rg_l (am_up (am_up (am_up (am_up (am_up (am_up (am_up h 38 1 (.long F.toInt64)) 38 2 (.long ((Hd - F).toInt64))) 38 3 (.long o.toInt64)) 38 4 (.long S.toInt64)) 38 0 (.long 0)) 38 5 (.long 0)) 38 5 (.long br.toInt64)) 38 q) (N' := eC 0 F (Hd - F) o S br) (Lv133 _ hk_z) (Or.inr (congrArg Int64.toInt (hnv133 0 (by decide)))) (fun q _ hq_z => congrArg Int64.toInt (hnv133 q hq_z)), lawX_e (h := h) (h' := (am_up (am_up (am_up (am_up (am_up (am_up (am_up h 38 1 (.long F.toInt64)) 38 2 (.long ((Hd - F).toInt64))) 38 3 (.long o.toInt64)) 38 4 (.long S.toInt64)) 38 0 (.long 0)) 38 5 (.long 0)) 38 5 (.long br.toInt64))) (fun o q a_ b_ => (rg_v_other (by omega)).trans ((rg_v_other (by omega)).trans ((rg_v_other (by omega)).trans ((rg_v_other (by omega)).trans ((rg_v_other (by omega)).trans ((rg_v_other (by omega)).trans ((rg_v_other (by omega)).trans (rfl))))))))] at xv133_z
        replace hc_z : rn _ _ _ _ [.long wv133_z] _ _ _ := hc_z
        replace hc_z := rn_lret (am_cur_of (i := (144, 1, .lreturn, (0, 0, 0), 0)) (by decide +kernel)) hc_z
        obtain ⟨e134_z, e135_z⟩ := hc_z
        refine ⟨_, e134_z, fun k2_z => ?_, fun k2_z => ?_, fun o q a_ b_ => by rw [e135_z]; exact ((fv133_z o q b_).trans ((up_ne (fun z => a_ z.1)).trans ((up_ne (fun z => a_ z.1)).trans ((up_ne (fun z => a_ z.1)).trans ((up_ne (fun z => a_ z.1)).trans ((up_ne (fun z => a_ z.1)).trans ((up_ne (fun z => a_ z.1)).trans ((up_ne (fun z => a_ z.1)).trans (rfl)))))))))⟩
        · exact absurd k2_z b111_z.1
        · rw [show ldX 23 h U F (Hd - F) o S = 0 from (ldX_e (by
            unfold ldZ
            rw [if_neg b128_z.1]
            decide)).symm]
          exact xv133_z
      · replace b128_z : U = (0 : Int32) ∧ U.toInt = (0 : Int32).toInt := b128_z
        replace hc_z := rn_aload (am_cur_of (i := (109, 2, .aload 4, (0, 0, 0), 0)) (by decide +kernel)) g4_z hc_z
        replace hc_z := rn_getR (x := 38) (am_cur_of (i := (111, 3, .getfield 66, (2, 7, 174), 0)) (by decide +kernel)) (by decide +kernel) hc_z
        replace hc_z := rn_iconst (w := 0) (am_cur_of (i := (114, 1, .iconst 0, (0, 0, 0), 0)) (by decide +kernel)) (by decide) hc_z
        replace hc_z := rn_aload (am_cur_of (i := (115, 2, .aload 4, (0, 0, 0), 0)) (by decide +kernel)) g4_z hc_z
        replace hc_z := rn_iconst (w := 2) (am_cur_of (i := (117, 1, .iconst 2, (0, 0, 0), 0)) (by decide +kernel)) (by decide) hc_z
        replace hc_z := rn_callV (M' := am_m66) (o := 32) (ar := [.int 2]) (rest := [.int 0, .ref 38]) (L := lv_args 0 [.ref 32, .int 2]) (am_cur_of (i := (118, 3, .invokevirtual 76, (66, 925, 3), 0)) (by decide +kernel)) rfl rfl rfl rfl hc_z
        obtain ⟨r136_z, h137_z, q138_z, hc_z⟩ := hc_z
        have Lv139 : LW 23 (am_up (am_up (am_up (am_up (am_up (am_up h 38 1 (.long F.toInt64)) 38 2 (.long ((Hd - F).toInt64))) 38 3 (.long o.toInt64)) 38 4 (.long S.toInt64)) 38 0 (.long 0)) 38 5 (.long 0)) g := LW_e (fun o q a_ b_ => (rg_v_other (by omega)).trans ((rg_v_other (by omega)).trans ((rg_v_other (by omega)).trans ((rg_v_other (by omega)).trans ((rg_v_other (by omega)).trans ((rg_v_other (by omega)).trans (rfl))))))) (fun _ _ _ => rfl) L
        have hnv139 : ∀ q, q < 6 → rg_l (am_up (am_up (am_up (am_up (am_up (am_up h 38 1 (.long F.toInt64)) 38 2 (.long ((Hd - F).toInt64))) 38 3 (.long o.toInt64)) 38 4 (.long S.toInt64)) 38 0 (.long 0)) 38 5 (.long 0)) 38 q = eC 0 F (Hd - F) o S 0 q := by
          intro q hq_z
          match q, hq_z with
          | 0, _ => rfl
          | 1, _ => rfl
          | 2, _ => rfl
          | 3, _ => rfl
          | 4, _ => rfl
          | 5, _ => rfl
          | q + 6, hq_z => omega
        obtain ⟨wv139_z, rr, xv139_z, fv139_z⟩ := vw_66_23 (kd := 2) (by rw [k2_z]; exact Lv139 2 (by decide)) (fun q hq_z => by rw [hnv139 q hq_z]; exact eC_b q) q138_z
        subst rr
        rw [k2_z] at xv139_z
        rw [lawX_N (N := fun q => rg_l (am_up (am_up (am_up (am_up (am_up (am_up h 38 1 (.long F.toInt64)) 38 2 (.long ((Hd - F).toInt64))) 38 3 (.long o.toInt64)) 38 4 (.long S.toInt64)) 38 0 (.long 0)) 38 5 (.long 0)) 38 q) (N' := eC 0 F (Hd - F) o S 0) (Lv139 2 (by decide)) (Or.inr (congrArg Int64.toInt (hnv139 0 (by decide)))) (fun q _ hq_z => congrArg Int64.toInt (hnv139 q hq_z)), lawX_e (h := h) (h' := (am_up (am_up (am_up (am_up (am_up (am_up h 38 1 (.long F.toInt64)) 38 2 (.long ((Hd - F).toInt64))) 38 3 (.long o.toInt64)) 38 4 (.long S.toInt64)) 38 0 (.long 0)) 38 5 (.long 0))) (fun o q a_ b_ => (rg_v_other (by omega)).trans ((rg_v_other (by omega)).trans ((rg_v_other (by omega)).trans ((rg_v_other (by omega)).trans ((rg_v_other (by omega)).trans ((rg_v_other (by omega)).trans (rfl)))))))] at xv139_z
        replace hc_z : rn _ _ _ _ [.long wv139_z, .int 0, .ref 38] _ _ _ := hc_z
        replace hc_z := rn_bipush (w := 99) (am_cur_of (i := (121, 2, .bipush 99, (0, 0, 0), 0)) (by decide +kernel)) (by decide) hc_z
        replace hc_z := rn_iconst (w := 0) (am_cur_of (i := (123, 1, .iconst 0, (0, 0, 0), 0)) (by decide +kernel)) (by decide) hc_z
        replace hc_z := rn_callS (M' := am_m68) (ar := [.int 0, .int 99, .long wv139_z]) (rest := [.int 0, .ref 38]) (L := lv_args 0 [.long wv139_z, .int 99, .int 0]) (am_cur_of (i := (124, 3, .invokestatic 80, (68, 935, 3), 0)) (by decide +kernel)) rfl rfl rfl rfl hc_z
        obtain ⟨r140_z, h141_z, q142_z, hc_z⟩ := hc_z
        obtain ⟨xl, rr, hh, xe⟩ := wi_68 xv139_z (fun z e => lawX_b (L 2 (by decide)) (fun q _ => eC_b q) e) (by decide) q142_z
        replace hh := hh.symm
        subst rr
        subst hh
        rw [z0_z, z99_z] at xe
        have el : xl = ldX 23 h U F (Hd - F) o S := ldX_e (by
          unfold ldZ
          rw [if_pos b128_z.1]
          exact xe)
        replace hc_z : rn _ _ _ _ [.int xl, .int 0, .ref 38] _ _ _ := hc_z
        replace hc_z := rn_i2l (w := xl.toInt64) (am_cur_of (i := (127, 1, .i2l, (0, 0, 0), 0)) (by decide +kernel)) rfl hc_z
        replace hc_z := rn_lastore (N := 6) (q := 0) (am_cur_of (i := (128, 1, .lastore, (0, 0, 0), 0)) (by decide +kernel)) (by decide +kernel) rfl hc_z
        obtain ⟨p143_z, hc_z⟩ := hc_z
        replace hc_z := rn_aload (am_cur_of (i := (129, 2, .aload 4, (0, 0, 0), 0)) (by decide +kernel)) g4_z hc_z
        replace hc_z := rn_getR (x := 38) (am_cur_of (i := (131, 3, .getfield 66, (2, 7, 174), 0)) (by decide +kernel)) (by decide +kernel) hc_z
        replace hc_z := rn_iconst (w := 5) (am_cur_of (i := (134, 1, .iconst 5, (0, 0, 0), 0)) (by decide +kernel)) (by decide) hc_z
        replace hc_z := rn_iload_n (am_cur_of (i := (135, 1, .iload_n 3, (0, 0, 0), 0)) (by decide +kernel)) g3_z hc_z
        replace hc_z := rn_i2l (w := br.toInt64) (am_cur_of (i := (136, 1, .i2l, (0, 0, 0), 0)) (by decide +kernel)) rfl hc_z
        replace hc_z := rn_lastore (N := 6) (q := 5) (am_cur_of (i := (137, 1, .lastore, (0, 0, 0), 0)) (by decide +kernel)) (by decide +kernel) rfl hc_z
        obtain ⟨p144_z, hc_z⟩ := hc_z
        replace hc_z := rn_aload (am_cur_of (i := (138, 2, .aload 4, (0, 0, 0), 0)) (by decide +kernel)) g4_z hc_z
        replace hc_z := rn_iload_n (am_cur_of (i := (140, 1, .iload_n 1, (0, 0, 0), 0)) (by decide +kernel)) g1_z hc_z
        replace hc_z := rn_callV (M' := am_m66) (o := 32) (ar := [.int kd]) (rest := []) (L := lv_args 0 [.ref 32, .int kd]) (am_cur_of (i := (141, 3, .invokevirtual 76, (66, 925, 3), 0)) (by decide +kernel)) rfl rfl rfl rfl hc_z
        obtain ⟨r145_z, h146_z, q147_z, hc_z⟩ := hc_z
        have Lv148 : LW 23 (am_up (am_up h137_z 38 0 (.long xl.toInt64)) 38 5 (.long br.toInt64)) g := LW_e (fun o q a_ b_ => (rg_v_other (by omega)).trans ((rg_v_other (by omega)).trans (rfl))) (fun _ _ _ => rfl) (LW_e (fun o q a_ b_ => lw_v (fv139_z o q (by omega))) (fun _ _ _ => rfl) Lv139)
        have hnv148 : ∀ q, q < 6 → rg_l (am_up (am_up h137_z 38 0 (.long xl.toInt64)) 38 5 (.long br.toInt64)) 38 q = eC xl F (Hd - F) o S br q := by
          intro q hq_z
          match q, hq_z with
          | 0, _ => rfl
          | 1, _ => exact (lw_l (fv139_z 38 1 (by decide))).trans rfl
          | 2, _ => exact (lw_l (fv139_z 38 2 (by decide))).trans rfl
          | 3, _ => exact (lw_l (fv139_z 38 3 (by decide))).trans rfl
          | 4, _ => exact (lw_l (fv139_z 38 4 (by decide))).trans rfl
          | 5, _ => rfl
          | q + 6, hq_z => omega
        obtain ⟨wv148_z, rr, xv148_z, fv148_z⟩ := vw_66_23 (kd := kd) (Lv148 _ hk_z) (fun q hq_z => by rw [hnv148 q hq_z]; exact eC_b q) q147_z
        subst rr
        rw [lawX_N (N := fun q => rg_l (am_up (am_up h137_z 38 0 (.long xl.toInt64)) 38 5 (.long br.toInt64)) 38 q) (N' := eC xl F (Hd - F) o S br) (Lv148 _ hk_z) (Or.inr (congrArg Int64.toInt (hnv148 0 (by decide)))) (fun q _ hq_z => congrArg Int64.toInt (hnv148 q hq_z)), lawX_e (h := h) (h' := (am_up (am_up h137_z 38 0 (.long xl.toInt64)) 38 5 (.long br.toInt64))) (fun o q a_ b_ => (rg_v_other (by omega)).trans ((rg_v_other (by omega)).trans ((lw_v (fv139_z o q (by omega))).trans ((rg_v_other (by omega)).trans ((rg_v_other (by omega)).trans ((rg_v_other (by omega)).trans ((rg_v_other (by omega)).trans ((rg_v_other (by omega)).trans ((rg_v_other (by omega)).trans (rfl))))))))))] at xv148_z
        replace hc_z : rn _ _ _ _ [.long wv148_z] _ _ _ := hc_z
        replace hc_z := rn_lret (am_cur_of (i := (144, 1, .lreturn, (0, 0, 0), 0)) (by decide +kernel)) hc_z
        obtain ⟨e149_z, e150_z⟩ := hc_z
        refine ⟨_, e149_z, fun k2_z => ?_, fun k2_z => ?_, fun o q a_ b_ => by rw [e150_z]; exact ((fv148_z o q b_).trans ((up_ne (fun z => a_ z.1)).trans ((up_ne (fun z => a_ z.1)).trans (((fv139_z o q b_).trans ((up_ne (fun z => a_ z.1)).trans ((up_ne (fun z => a_ z.1)).trans ((up_ne (fun z => a_ z.1)).trans ((up_ne (fun z => a_ z.1)).trans ((up_ne (fun z => a_ z.1)).trans ((up_ne (fun z => a_ z.1)).trans (rfl))))))))))))⟩
        · exact absurd k2_z b111_z.1
        · rw [← el]
          exact xv148_z
theorem wo_65_153_2 {n : Nat} {r : Option Value} {h h' g : am_H} {kd o br F S Hd U : Int32} (D : h 153 0 = .ref 2) (L : LW 2 h g) (eF : rg_v h 154 0 = F) (eS : rg_v h 154 1 = S) (eH : rg_v h 2 0 = Hd) (eU : rg_v h 153 3 = U) (hk_z : kd.toNatClampNeg < 3) (hc_z : rn n am_m65 0 (lv_args 0 [.ref 153, .int kd, .int o, .int br]) [] h r h') : ∃ w : Int64, r = some (.long w) ∧ (kd = 2 → lR (lawX 2 h kd.toNatClampNeg (eC 0 F (Hd - F) o S br)) w.toInt) ∧ (¬ kd = 2 → lR (lawX 2 h kd.toNatClampNeg (eC (ldX 2 h U F (Hd - F) o S) F (Hd - F) o S br)) w.toInt) ∧ ∀ o q, ¬ o = 17 → ¬ o = 18 → h' o q = h o q := by
  have z0_z : (0 : Int32).toInt = 0 := by decide
  have z2_z : (2 : Int32).toInt = 2 := by decide
  have z99_z : (99 : Int32).toInt = 99 := by decide
  have k2_z : (2 : Int32).toNatClampNeg = 2 := by decide
  have g0_z : am_get (lv_args 0 [.ref 153, .int kd, .int o, .int br]) 0 = some (.ref 153) := rfl
  have g1_z : am_get (lv_args 0 [.ref 153, .int kd, .int o, .int br]) 1 = some (.int kd) := rfl
  have g2_z : am_get (lv_args 0 [.ref 153, .int kd, .int o, .int br]) 2 = some (.int o) := rfl
  have g3_z : am_get (lv_args 0 [.ref 153, .int kd, .int o, .int br]) 3 = some (.int br) := rfl
  replace hc_z := rn_aload_n (am_cur_of (i := (0, 1, .aload_n 0, (0, 0, 0), 0)) (by decide +kernel)) g0_z hc_z
  replace hc_z := rn_getM (x := 2) (am_cur_of (i := (1, 3, .getfield 18, (8, 0, 566), 0)) (by decide +kernel)) D hc_z
  replace hc_z := rn_getR (x := 11) (am_cur_of (i := (4, 3, .getfield 62, (1, 19, 315), 0)) (by decide +kernel)) (by decide +kernel) hc_z
  replace hc_z := rn_astore (am_cur_of (i := (7, 2, .astore 4, (0, 0, 0), 0)) (by decide +kernel)) hc_z
  obtain ⟨_, s151_z, s152_z, g4_z, hc_z⟩ := hc_z
  replace g0_z := s151_z 0 _ (by decide) rfl g0_z
  replace g1_z := s151_z 1 _ (by decide) rfl g1_z
  replace g2_z := s151_z 2 _ (by decide) rfl g2_z
  replace g3_z := s151_z 3 _ (by decide) rfl g3_z
  clear s151_z s152_z
  replace hc_z := rn_aload (am_cur_of (i := (9, 2, .aload 4, (0, 0, 0), 0)) (by decide +kernel)) g4_z hc_z
  replace hc_z := rn_getR (x := 17) (am_cur_of (i := (11, 3, .getfield 66, (2, 7, 174), 0)) (by decide +kernel)) (by decide +kernel) hc_z
  replace hc_z := rn_iconst (w := 1) (am_cur_of (i := (14, 1, .iconst 1, (0, 0, 0), 0)) (by decide +kernel)) (by decide) hc_z
  replace hc_z := rn_aload_n (am_cur_of (i := (15, 1, .aload_n 0, (0, 0, 0), 0)) (by decide +kernel)) g0_z hc_z
  replace hc_z := rn_getR (x := 154) (am_cur_of (i := (16, 3, .getfield 12, (8, 1, 569), 0)) (by decide +kernel)) (by decide +kernel) hc_z
  replace hc_z := rn_getI (v := F) (am_cur_of (i := (19, 3, .getfield 49, (5, 0, 463), 0)) (by decide +kernel)) (by decide +kernel) eF hc_z
  replace hc_z := rn_i2l (w := F.toInt64) (am_cur_of (i := (22, 1, .i2l, (0, 0, 0), 0)) (by decide +kernel)) rfl hc_z
  replace hc_z := rn_lastore (N := 6) (q := 1) (am_cur_of (i := (23, 1, .lastore, (0, 0, 0), 0)) (by decide +kernel)) (by decide +kernel) rfl hc_z
  obtain ⟨p153_z, hc_z⟩ := hc_z
  replace hc_z := rn_aload (am_cur_of (i := (24, 2, .aload 4, (0, 0, 0), 0)) (by decide +kernel)) g4_z hc_z
  replace hc_z := rn_getR (x := 17) (am_cur_of (i := (26, 3, .getfield 66, (2, 7, 174), 0)) (by decide +kernel)) (by decide +kernel) hc_z
  replace hc_z := rn_iconst (w := 2) (am_cur_of (i := (29, 1, .iconst 2, (0, 0, 0), 0)) (by decide +kernel)) (by decide) hc_z
  replace hc_z := rn_aload_n (am_cur_of (i := (30, 1, .aload_n 0, (0, 0, 0), 0)) (by decide +kernel)) g0_z hc_z
  replace hc_z := rn_getM (x := 2) (am_cur_of (i := (31, 3, .getfield 18, (8, 0, 566), 0)) (by decide +kernel)) (show (am_up h 17 1 (.long F.toInt64)) 153 0 = .ref 2 from D) hc_z
  replace hc_z := rn_getI (v := Hd) (am_cur_of (i := (34, 3, .getfield 52, (1, 0, 249), 0)) (by decide +kernel)) (by decide +kernel) ((rg_v_other (by omega)).trans (eH)) hc_z
  replace hc_z := rn_aload_n (am_cur_of (i := (37, 1, .aload_n 0, (0, 0, 0), 0)) (by decide +kernel)) g0_z hc_z
  replace hc_z := rn_getR (x := 154) (am_cur_of (i := (38, 3, .getfield 12, (8, 1, 569), 0)) (by decide +kernel)) (by decide +kernel) hc_z
  replace hc_z := rn_getI (v := F) (am_cur_of (i := (41, 3, .getfield 49, (5, 0, 463), 0)) (by decide +kernel)) (by decide +kernel) ((rg_v_other (by omega)).trans (eF)) hc_z
  replace hc_z := rn_isub (w := Hd - F) (am_cur_of (i := (44, 1, .isub, (0, 0, 0), 0)) (by decide +kernel)) rfl hc_z
  replace hc_z := rn_i2l (w := (Hd - F).toInt64) (am_cur_of (i := (45, 1, .i2l, (0, 0, 0), 0)) (by decide +kernel)) rfl hc_z
  replace hc_z := rn_lastore (N := 6) (q := 2) (am_cur_of (i := (46, 1, .lastore, (0, 0, 0), 0)) (by decide +kernel)) (by decide +kernel) rfl hc_z
  obtain ⟨p154_z, hc_z⟩ := hc_z
  replace hc_z := rn_aload (am_cur_of (i := (47, 2, .aload 4, (0, 0, 0), 0)) (by decide +kernel)) g4_z hc_z
  replace hc_z := rn_getR (x := 17) (am_cur_of (i := (49, 3, .getfield 66, (2, 7, 174), 0)) (by decide +kernel)) (by decide +kernel) hc_z
  replace hc_z := rn_iconst (w := 3) (am_cur_of (i := (52, 1, .iconst 3, (0, 0, 0), 0)) (by decide +kernel)) (by decide) hc_z
  replace hc_z := rn_iload_n (am_cur_of (i := (53, 1, .iload_n 2, (0, 0, 0), 0)) (by decide +kernel)) g2_z hc_z
  replace hc_z := rn_i2l (w := o.toInt64) (am_cur_of (i := (54, 1, .i2l, (0, 0, 0), 0)) (by decide +kernel)) rfl hc_z
  replace hc_z := rn_lastore (N := 6) (q := 3) (am_cur_of (i := (55, 1, .lastore, (0, 0, 0), 0)) (by decide +kernel)) (by decide +kernel) rfl hc_z
  obtain ⟨p155_z, hc_z⟩ := hc_z
  replace hc_z := rn_aload (am_cur_of (i := (56, 2, .aload 4, (0, 0, 0), 0)) (by decide +kernel)) g4_z hc_z
  replace hc_z := rn_getR (x := 17) (am_cur_of (i := (58, 3, .getfield 66, (2, 7, 174), 0)) (by decide +kernel)) (by decide +kernel) hc_z
  replace hc_z := rn_iconst (w := 4) (am_cur_of (i := (61, 1, .iconst 4, (0, 0, 0), 0)) (by decide +kernel)) (by decide) hc_z
  replace hc_z := rn_aload_n (am_cur_of (i := (62, 1, .aload_n 0, (0, 0, 0), 0)) (by decide +kernel)) g0_z hc_z
  replace hc_z := rn_getR (x := 154) (am_cur_of (i := (63, 3, .getfield 12, (8, 1, 569), 0)) (by decide +kernel)) (by decide +kernel) hc_z
  replace hc_z := rn_getI (v := S) (am_cur_of (i := (66, 3, .getfield 59, (5, 1, 470), 0)) (by decide +kernel)) (by decide +kernel) ((rg_v_other (by omega)).trans ((rg_v_other (by omega)).trans ((rg_v_other (by omega)).trans (eS)))) hc_z
  replace hc_z := rn_i2l (w := S.toInt64) (am_cur_of (i := (69, 1, .i2l, (0, 0, 0), 0)) (by decide +kernel)) rfl hc_z
  replace hc_z := rn_lastore (N := 6) (q := 4) (am_cur_of (i := (70, 1, .lastore, (0, 0, 0), 0)) (by decide +kernel)) (by decide +kernel) rfl hc_z
  obtain ⟨p156_z, hc_z⟩ := hc_z
  replace hc_z := rn_aload (am_cur_of (i := (71, 2, .aload 4, (0, 0, 0), 0)) (by decide +kernel)) g4_z hc_z
  replace hc_z := rn_getR (x := 17) (am_cur_of (i := (73, 3, .getfield 66, (2, 7, 174), 0)) (by decide +kernel)) (by decide +kernel) hc_z
  replace hc_z := rn_iconst (w := 0) (am_cur_of (i := (76, 1, .iconst 0, (0, 0, 0), 0)) (by decide +kernel)) (by decide) hc_z
  replace hc_z := rn_lconst (w := 0) (am_cur_of (i := (77, 1, .lconst 0, (0, 0, 0), 0)) (by decide +kernel)) rfl hc_z
  replace hc_z := rn_lastore (N := 6) (q := 0) (am_cur_of (i := (78, 1, .lastore, (0, 0, 0), 0)) (by decide +kernel)) (by decide +kernel) rfl hc_z
  obtain ⟨p157_z, hc_z⟩ := hc_z
  replace hc_z := rn_aload (am_cur_of (i := (79, 2, .aload 4, (0, 0, 0), 0)) (by decide +kernel)) g4_z hc_z
  replace hc_z := rn_getR (x := 17) (am_cur_of (i := (81, 3, .getfield 66, (2, 7, 174), 0)) (by decide +kernel)) (by decide +kernel) hc_z
  replace hc_z := rn_iconst (w := 5) (am_cur_of (i := (84, 1, .iconst 5, (0, 0, 0), 0)) (by decide +kernel)) (by decide) hc_z
  replace hc_z := rn_lconst (w := 0) (am_cur_of (i := (85, 1, .lconst 0, (0, 0, 0), 0)) (by decide +kernel)) rfl hc_z
  replace hc_z := rn_lastore (N := 6) (q := 5) (am_cur_of (i := (86, 1, .lastore, (0, 0, 0), 0)) (by decide +kernel)) (by decide +kernel) rfl hc_z
  obtain ⟨p158_z, hc_z⟩ := hc_z
  replace hc_z := rn_iload_n (am_cur_of (i := (87, 1, .iload_n 1, (0, 0, 0), 0)) (by decide +kernel)) g1_z hc_z
  replace hc_z := rn_iconst (w := 2) (am_cur_of (i := (88, 1, .iconst 2, (0, 0, 0), 0)) (by decide +kernel)) (by decide) hc_z
  replace hc_z := rn_cmp (am_cur_of (i := (89, 3, .if_icmp .eq 40, (70, 0, 0), 0)) (by decide +kernel)) hc_z
  rcases hc_z with ⟨b159_z, hc_z⟩ | ⟨b159_z, hc_z⟩
  · replace b159_z : kd = (2 : Int32) ∧ kd.toInt = (2 : Int32).toInt := b159_z
    replace hc_z := rn_aload (am_cur_of (i := (129, 2, .aload 4, (0, 0, 0), 0)) (by decide +kernel)) g4_z hc_z
    replace hc_z := rn_getR (x := 17) (am_cur_of (i := (131, 3, .getfield 66, (2, 7, 174), 0)) (by decide +kernel)) (by decide +kernel) hc_z
    replace hc_z := rn_iconst (w := 5) (am_cur_of (i := (134, 1, .iconst 5, (0, 0, 0), 0)) (by decide +kernel)) (by decide) hc_z
    replace hc_z := rn_iload_n (am_cur_of (i := (135, 1, .iload_n 3, (0, 0, 0), 0)) (by decide +kernel)) g3_z hc_z
    replace hc_z := rn_i2l (w := br.toInt64) (am_cur_of (i := (136, 1, .i2l, (0, 0, 0), 0)) (by decide +kernel)) rfl hc_z
    replace hc_z := rn_lastore (N := 6) (q := 5) (am_cur_of (i := (137, 1, .lastore, (0, 0, 0), 0)) (by decide +kernel)) (by decide +kernel) rfl hc_z
    obtain ⟨p160_z, hc_z⟩ := hc_z
    replace hc_z := rn_aload (am_cur_of (i := (138, 2, .aload 4, (0, 0, 0), 0)) (by decide +kernel)) g4_z hc_z
    replace hc_z := rn_iload_n (am_cur_of (i := (140, 1, .iload_n 1, (0, 0, 0), 0)) (by decide +kernel)) g1_z hc_z
    replace hc_z := rn_callV (M' := am_m66) (o := 11) (ar := [.int kd]) (rest := []) (L := lv_args 0 [.ref 11, .int kd]) (am_cur_of (i := (141, 3, .invokevirtual 76, (66, 925, 3), 0)) (by decide +kernel)) rfl rfl rfl rfl hc_z
    obtain ⟨r161_z, h162_z, q163_z, hc_z⟩ := hc_z
    have Lv164 : LW 2 (am_up (am_up (am_up (am_up (am_up (am_up (am_up h 17 1 (.long F.toInt64)) 17 2 (.long ((Hd - F).toInt64))) 17 3 (.long o.toInt64)) 17 4 (.long S.toInt64)) 17 0 (.long 0)) 17 5 (.long 0)) 17 5 (.long br.toInt64)) g := LW_e (fun o q a_ b_ => (rg_v_other (by omega)).trans ((rg_v_other (by omega)).trans ((rg_v_other (by omega)).trans ((rg_v_other (by omega)).trans ((rg_v_other (by omega)).trans ((rg_v_other (by omega)).trans ((rg_v_other (by omega)).trans (rfl)))))))) (fun _ _ _ => rfl) L
    have hnv164 : ∀ q, q < 6 → rg_l (am_up (am_up (am_up (am_up (am_up (am_up (am_up h 17 1 (.long F.toInt64)) 17 2 (.long ((Hd - F).toInt64))) 17 3 (.long o.toInt64)) 17 4 (.long S.toInt64)) 17 0 (.long 0)) 17 5 (.long 0)) 17 5 (.long br.toInt64)) 17 q = eC 0 F (Hd - F) o S br q := by
      intro q hq_z
      match q, hq_z with
      | 0, _ => rfl
      | 1, _ => rfl
      | 2, _ => rfl
      | 3, _ => rfl
      | 4, _ => rfl
      | 5, _ => rfl
      | q + 6, hq_z => omega
    obtain ⟨wv164_z, rr, xv164_z, fv164_z⟩ := vw_66_2 (kd := kd) (Lv164 _ hk_z) (fun q hq_z => by rw [hnv164 q hq_z]; exact eC_b q) q163_z
    subst rr
    rw [lawX_N (N := fun q => rg_l (am_up (am_up (am_up (am_up (am_up (am_up (am_up h 17 1 (.long F.toInt64)) 17 2 (.long ((Hd - F).toInt64))) 17 3 (.long o.toInt64)) 17 4 (.long S.toInt64)) 17 0 (.long 0)) 17 5 (.long 0)) 17 5 (.long br.toInt64)) 17 q) (N' := eC 0 F (Hd - F) o S br) (Lv164 _ hk_z) (Or.inr (congrArg Int64.toInt (hnv164 0 (by decide)))) (fun q _ hq_z => congrArg Int64.toInt (hnv164 q hq_z)), lawX_e (h := h) (h' := (am_up (am_up (am_up (am_up (am_up (am_up (am_up h 17 1 (.long F.toInt64)) 17 2 (.long ((Hd - F).toInt64))) 17 3 (.long o.toInt64)) 17 4 (.long S.toInt64)) 17 0 (.long 0)) 17 5 (.long 0)) 17 5 (.long br.toInt64))) (fun o q a_ b_ => (rg_v_other (by omega)).trans ((rg_v_other (by omega)).trans ((rg_v_other (by omega)).trans ((rg_v_other (by omega)).trans ((rg_v_other (by omega)).trans ((rg_v_other (by omega)).trans ((rg_v_other (by omega)).trans (rfl))))))))] at xv164_z
    replace hc_z : rn _ _ _ _ [.long wv164_z] _ _ _ := hc_z
    replace hc_z := rn_lret (am_cur_of (i := (144, 1, .lreturn, (0, 0, 0), 0)) (by decide +kernel)) hc_z
    obtain ⟨e165_z, e166_z⟩ := hc_z
    refine ⟨_, e165_z, fun k2_z => ?_, fun k2_z => ?_, fun o q a_ b_ => by rw [e166_z]; exact ((fv164_z o q b_).trans ((up_ne (fun z => a_ z.1)).trans ((up_ne (fun z => a_ z.1)).trans ((up_ne (fun z => a_ z.1)).trans ((up_ne (fun z => a_ z.1)).trans ((up_ne (fun z => a_ z.1)).trans ((up_ne (fun z => a_ z.1)).trans ((up_ne (fun z => a_ z.1)).trans (rfl)))))))))⟩
    · exact xv164_z
    · exact absurd b159_z.1 k2_z
  · replace b159_z : ¬ kd = (2 : Int32) ∧ ¬ kd.toInt = (2 : Int32).toInt := b159_z
    replace hc_z := rn_aload (am_cur_of (i := (92, 2, .aload 4, (0, 0, 0), 0)) (by decide +kernel)) g4_z hc_z
    replace hc_z := rn_getR (x := 16) (am_cur_of (i := (94, 3, .getfield 72, (2, 6, 172), 0)) (by decide +kernel)) (by decide +kernel) hc_z
    replace hc_z := rn_iload_n (am_cur_of (i := (97, 1, .iload_n 1, (0, 0, 0), 0)) (by decide +kernel)) g1_z hc_z
    replace hc_z := rn_baload (N := 3) (q := kd.toNatClampNeg) (v := rg_v h 16 kd.toNatClampNeg) (am_cur_of (i := (98, 1, .baload, (0, 0, 0), 0)) (by decide +kernel)) (by decide +kernel) rfl ((rg_v_other (by omega)).trans ((rg_v_other (by omega)).trans ((rg_v_other (by omega)).trans ((rg_v_other (by omega)).trans ((rg_v_other (by omega)).trans ((rg_v_other (by omega)).trans (rfl))))))) hc_z
    obtain ⟨p167_z, hc_z⟩ := hc_z
    replace hc_z := rn_if (am_cur_of (i := (99, 3, .ifCond .eq 30, (70, 0, 0), 0)) (by decide +kernel)) hc_z
    rcases hc_z with ⟨b168_z, hc_z⟩ | ⟨b168_z, hc_z⟩
    · replace b168_z : (rg_v h 16 kd.toNatClampNeg) = (0 : Int32) ∧ (rg_v h 16 kd.toNatClampNeg).toInt = (0 : Int32).toInt := b168_z
      replace hc_z := rn_aload (am_cur_of (i := (129, 2, .aload 4, (0, 0, 0), 0)) (by decide +kernel)) g4_z hc_z
      replace hc_z := rn_getR (x := 17) (am_cur_of (i := (131, 3, .getfield 66, (2, 7, 174), 0)) (by decide +kernel)) (by decide +kernel) hc_z
      replace hc_z := rn_iconst (w := 5) (am_cur_of (i := (134, 1, .iconst 5, (0, 0, 0), 0)) (by decide +kernel)) (by decide) hc_z
      replace hc_z := rn_iload_n (am_cur_of (i := (135, 1, .iload_n 3, (0, 0, 0), 0)) (by decide +kernel)) g3_z hc_z
      replace hc_z := rn_i2l (w := br.toInt64) (am_cur_of (i := (136, 1, .i2l, (0, 0, 0), 0)) (by decide +kernel)) rfl hc_z
      replace hc_z := rn_lastore (N := 6) (q := 5) (am_cur_of (i := (137, 1, .lastore, (0, 0, 0), 0)) (by decide +kernel)) (by decide +kernel) rfl hc_z
      obtain ⟨p169_z, hc_z⟩ := hc_z
      replace hc_z := rn_aload (am_cur_of (i := (138, 2, .aload 4, (0, 0, 0), 0)) (by decide +kernel)) g4_z hc_z
      replace hc_z := rn_iload_n (am_cur_of (i := (140, 1, .iload_n 1, (0, 0, 0), 0)) (by decide +kernel)) g1_z hc_z
      replace hc_z := rn_callV (M' := am_m66) (o := 11) (ar := [.int kd]) (rest := []) (L := lv_args 0 [.ref 11, .int kd]) (am_cur_of (i := (141, 3, .invokevirtual 76, (66, 925, 3), 0)) (by decide +kernel)) rfl rfl rfl rfl hc_z
      obtain ⟨r170_z, h171_z, q172_z, hc_z⟩ := hc_z
      have Lv173 : LW 2 (am_up (am_up (am_up (am_up (am_up (am_up (am_up h 17 1 (.long F.toInt64)) 17 2 (.long ((Hd - F).toInt64))) 17 3 (.long o.toInt64)) 17 4 (.long S.toInt64)) 17 0 (.long 0)) 17 5 (.long 0)) 17 5 (.long br.toInt64)) g := LW_e (fun o q a_ b_ => (rg_v_other (by omega)).trans ((rg_v_other (by omega)).trans ((rg_v_other (by omega)).trans ((rg_v_other (by omega)).trans ((rg_v_other (by omega)).trans ((rg_v_other (by omega)).trans ((rg_v_other (by omega)).trans (rfl)))))))) (fun _ _ _ => rfl) L
      have hnv173 : ∀ q, q < 6 → rg_l (am_up (am_up (am_up (am_up (am_up (am_up (am_up h 17 1 (.long F.toInt64)) 17 2 (.long ((Hd - F).toInt64))) 17 3 (.long o.toInt64)) 17 4 (.long S.toInt64)) 17 0 (.long 0)) 17 5 (.long 0)) 17 5 (.long br.toInt64)) 17 q = eC 0 F (Hd - F) o S br q := by
        intro q hq_z
        match q, hq_z with
        | 0, _ => rfl
        | 1, _ => rfl
        | 2, _ => rfl
        | 3, _ => rfl
        | 4, _ => rfl
        | 5, _ => rfl
        | q + 6, hq_z => omega
      obtain ⟨wv173_z, rr, xv173_z, fv173_z⟩ := vw_66_2 (kd := kd) (Lv173 _ hk_z) (fun q hq_z => by rw [hnv173 q hq_z]; exact eC_b q) q172_z
      subst rr
      rw [lawX_N (N := fun q => rg_l (am_up (am_up (am_up (am_up (am_up (am_up (am_up h 17 1 (.long F.toInt64)) 17 2 (.long ((Hd - F).toInt64))) 17 3 (.long o.toInt64)) 17 4 (.long S.toInt64)) 17 0 (.long 0)) 17 5 (.long 0)) 17 5 (.long br.toInt64)) 17 q) (N' := eC 0 F (Hd - F) o S br) (Lv173 _ hk_z) (Or.inr (congrArg Int64.toInt (hnv173 0 (by decide)))) (fun q _ hq_z => congrArg Int64.toInt (hnv173 q hq_z)), lawX_e (h := h) (h' := (am_up (am_up (am_up (am_up (am_up (am_up (am_up h 17 1 (.long F.toInt64)) 17 2 (.long ((Hd - F).toInt64))) 17 3 (.long o.toInt64)) 17 4 (.long S.toInt64)) 17 0 (.long 0)) 17 5 (.long 0)) 17 5 (.long br.toInt64))) (fun o q a_ b_ => (rg_v_other (by omega)).trans ((rg_v_other (by omega)).trans ((rg_v_other (by omega)).trans ((rg_v_other (by omega)).trans ((rg_v_other (by omega)).trans ((rg_v_other (by omega)).trans ((rg_v_other (by omega)).trans (rfl))))))))] at xv173_z
      replace hc_z : rn _ _ _ _ [.long wv173_z] _ _ _ := hc_z
      replace hc_z := rn_lret (am_cur_of (i := (144, 1, .lreturn, (0, 0, 0), 0)) (by decide +kernel)) hc_z
      obtain ⟨e174_z, e175_z⟩ := hc_z
      refine ⟨_, e174_z, fun k2_z => ?_, fun k2_z => ?_, fun o q a_ b_ => by rw [e175_z]; exact ((fv173_z o q b_).trans ((up_ne (fun z => a_ z.1)).trans ((up_ne (fun z => a_ z.1)).trans ((up_ne (fun z => a_ z.1)).trans ((up_ne (fun z => a_ z.1)).trans ((up_ne (fun z => a_ z.1)).trans ((up_ne (fun z => a_ z.1)).trans ((up_ne (fun z => a_ z.1)).trans (rfl)))))))))⟩
      · exact absurd k2_z b159_z.1
      · rw [lawX_N (N' := eC 0 F (Hd - F) o S br) (L _ hk_z) (Or.inl b168_z.1) (fun q q1_z q6_z => by
          match q, q1_z, q6_z with
          | 1, _, _ => rfl
          | 2, _, _ => rfl
          | 3, _, _ => rfl
          | 4, _, _ => rfl
          | 5, _, _ => rfl
          | q + 6, _, z => exact absurd z (by omega))]
        exact xv173_z
    · replace b168_z : ¬ (rg_v h 16 kd.toNatClampNeg) = (0 : Int32) ∧ ¬ (rg_v h 16 kd.toNatClampNeg).toInt = (0 : Int32).toInt := b168_z
      replace hc_z := rn_aload_n (am_cur_of (i := (102, 1, .aload_n 0, (0, 0, 0), 0)) (by decide +kernel)) g0_z hc_z
      replace hc_z := rn_getI (v := U) (am_cur_of (i := (103, 3, .getfield 33, (8, 3, 575), 0)) (by decide +kernel)) (by decide +kernel) ((rg_v_other (by omega)).trans ((rg_v_other (by omega)).trans ((rg_v_other (by omega)).trans ((rg_v_other (by omega)).trans ((rg_v_other (by omega)).trans ((rg_v_other (by omega)).trans (eU))))))) hc_z
      replace hc_z := rn_if (am_cur_of (i := (106, 3, .ifCond .ne 23, (70, 0, 0), 0)) (by decide +kernel)) hc_z
      rcases hc_z with ⟨b176_z, hc_z⟩ | ⟨b176_z, hc_z⟩
      · replace b176_z : ¬ U = (0 : Int32) ∧ ¬ U.toInt = (0 : Int32).toInt := b176_z
        replace hc_z := rn_aload (am_cur_of (i := (129, 2, .aload 4, (0, 0, 0), 0)) (by decide +kernel)) g4_z hc_z
        replace hc_z := rn_getR (x := 17) (am_cur_of (i := (131, 3, .getfield 66, (2, 7, 174), 0)) (by decide +kernel)) (by decide +kernel) hc_z
        replace hc_z := rn_iconst (w := 5) (am_cur_of (i := (134, 1, .iconst 5, (0, 0, 0), 0)) (by decide +kernel)) (by decide) hc_z
        replace hc_z := rn_iload_n (am_cur_of (i := (135, 1, .iload_n 3, (0, 0, 0), 0)) (by decide +kernel)) g3_z hc_z
        replace hc_z := rn_i2l (w := br.toInt64) (am_cur_of (i := (136, 1, .i2l, (0, 0, 0), 0)) (by decide +kernel)) rfl hc_z
        replace hc_z := rn_lastore (N := 6) (q := 5) (am_cur_of (i := (137, 1, .lastore, (0, 0, 0), 0)) (by decide +kernel)) (by decide +kernel) rfl hc_z
        obtain ⟨p177_z, hc_z⟩ := hc_z
        replace hc_z := rn_aload (am_cur_of (i := (138, 2, .aload 4, (0, 0, 0), 0)) (by decide +kernel)) g4_z hc_z
        replace hc_z := rn_iload_n (am_cur_of (i := (140, 1, .iload_n 1, (0, 0, 0), 0)) (by decide +kernel)) g1_z hc_z
        replace hc_z := rn_callV (M' := am_m66) (o := 11) (ar := [.int kd]) (rest := []) (L := lv_args 0 [.ref 11, .int kd]) (am_cur_of (i := (141, 3, .invokevirtual 76, (66, 925, 3), 0)) (by decide +kernel)) rfl rfl rfl rfl hc_z
        obtain ⟨r178_z, h179_z, q180_z, hc_z⟩ := hc_z
        have Lv181 : LW 2 (am_up (am_up (am_up (am_up (am_up (am_up (am_up h 17 1 (.long F.toInt64)) 17 2 (.long ((Hd - F).toInt64))) 17 3 (.long o.toInt64)) 17 4 (.long S.toInt64)) 17 0 (.long 0)) 17 5 (.long 0)) 17 5 (.long br.toInt64)) g := LW_e (fun o q a_ b_ => (rg_v_other (by omega)).trans ((rg_v_other (by omega)).trans ((rg_v_other (by omega)).trans ((rg_v_other (by omega)).trans ((rg_v_other (by omega)).trans ((rg_v_other (by omega)).trans ((rg_v_other (by omega)).trans (rfl)))))))) (fun _ _ _ => rfl) L
        have hnv181 : ∀ q, q < 6 → rg_l (am_up (am_up (am_up (am_up (am_up (am_up (am_up h 17 1 (.long F.toInt64)) 17 2 (.long ((Hd - F).toInt64))) 17 3 (.long o.toInt64)) 17 4 (.long S.toInt64)) 17 0 (.long 0)) 17 5 (.long 0)) 17 5 (.long br.toInt64)) 17 q = eC 0 F (Hd - F) o S br q := by
          intro q hq_z
          match q, hq_z with
          | 0, _ => rfl
          | 1, _ => rfl
          | 2, _ => rfl
          | 3, _ => rfl
          | 4, _ => rfl
          | 5, _ => rfl
          | q + 6, hq_z => omega
        obtain ⟨wv181_z, rr, xv181_z, fv181_z⟩ := vw_66_2 (kd := kd) (Lv181 _ hk_z) (fun q hq_z => by rw [hnv181 q hq_z]; exact eC_b q) q180_z
        subst rr
        rw [lawX_N (N := fun q => rg_l (am_up (am_up (am_up (am_up (am_up (am_up (am_up h 17 1 (.long F.toInt64)) 17 2 (.long ((Hd - F).toInt64))) 17 3 (.long o.toInt64)) 17 4 (.long S.toInt64)) 17 0 (.long 0)) 17 5 (.long 0)) 17 5 (.long br.toInt64)) 17 q) (N' := eC 0 F (Hd - F) o S br) (Lv181 _ hk_z) (Or.inr (congrArg Int64.toInt (hnv181 0 (by decide)))) (fun q _ hq_z => congrArg Int64.toInt (hnv181 q hq_z)), lawX_e (h := h) (h' := (am_up (am_up (am_up (am_up (am_up (am_up (am_up h 17 1 (.long F.toInt64)) 17 2 (.long ((Hd - F).toInt64))) 17 3 (.long o.toInt64)) 17 4 (.long S.toInt64)) 17 0 (.long 0)) 17 5 (.long 0)) 17 5 (.long br.toInt64))) (fun o q a_ b_ => (rg_v_other (by omega)).trans ((rg_v_other (by omega)).trans ((rg_v_other (by omega)).trans ((rg_v_other (by omega)).trans ((rg_v_other (by omega)).trans ((rg_v_other (by omega)).trans ((rg_v_other (by omega)).trans (rfl))))))))] at xv181_z
        replace hc_z : rn _ _ _ _ [.long wv181_z] _ _ _ := hc_z
        replace hc_z := rn_lret (am_cur_of (i := (144, 1, .lreturn, (0, 0, 0), 0)) (by decide +kernel)) hc_z
        obtain ⟨e182_z, e183_z⟩ := hc_z
        refine ⟨_, e182_z, fun k2_z => ?_, fun k2_z => ?_, fun o q a_ b_ => by rw [e183_z]; exact ((fv181_z o q b_).trans ((up_ne (fun z => a_ z.1)).trans ((up_ne (fun z => a_ z.1)).trans ((up_ne (fun z => a_ z.1)).trans ((up_ne (fun z => a_ z.1)).trans ((up_ne (fun z => a_ z.1)).trans ((up_ne (fun z => a_ z.1)).trans ((up_ne (fun z => a_ z.1)).trans (rfl)))))))))⟩
        · exact absurd k2_z b159_z.1
        · rw [show ldX 2 h U F (Hd - F) o S = 0 from (ldX_e (by
            unfold ldZ
            rw [if_neg b176_z.1]
            decide)).symm]
          exact xv181_z
      · replace b176_z : U = (0 : Int32) ∧ U.toInt = (0 : Int32).toInt := b176_z
        replace hc_z := rn_aload (am_cur_of (i := (109, 2, .aload 4, (0, 0, 0), 0)) (by decide +kernel)) g4_z hc_z
        replace hc_z := rn_getR (x := 17) (am_cur_of (i := (111, 3, .getfield 66, (2, 7, 174), 0)) (by decide +kernel)) (by decide +kernel) hc_z
        replace hc_z := rn_iconst (w := 0) (am_cur_of (i := (114, 1, .iconst 0, (0, 0, 0), 0)) (by decide +kernel)) (by decide) hc_z
        replace hc_z := rn_aload (am_cur_of (i := (115, 2, .aload 4, (0, 0, 0), 0)) (by decide +kernel)) g4_z hc_z
        replace hc_z := rn_iconst (w := 2) (am_cur_of (i := (117, 1, .iconst 2, (0, 0, 0), 0)) (by decide +kernel)) (by decide) hc_z
        replace hc_z := rn_callV (M' := am_m66) (o := 11) (ar := [.int 2]) (rest := [.int 0, .ref 17]) (L := lv_args 0 [.ref 11, .int 2]) (am_cur_of (i := (118, 3, .invokevirtual 76, (66, 925, 3), 0)) (by decide +kernel)) rfl rfl rfl rfl hc_z
        obtain ⟨r184_z, h185_z, q186_z, hc_z⟩ := hc_z
        have Lv187 : LW 2 (am_up (am_up (am_up (am_up (am_up (am_up h 17 1 (.long F.toInt64)) 17 2 (.long ((Hd - F).toInt64))) 17 3 (.long o.toInt64)) 17 4 (.long S.toInt64)) 17 0 (.long 0)) 17 5 (.long 0)) g := LW_e (fun o q a_ b_ => (rg_v_other (by omega)).trans ((rg_v_other (by omega)).trans ((rg_v_other (by omega)).trans ((rg_v_other (by omega)).trans ((rg_v_other (by omega)).trans ((rg_v_other (by omega)).trans (rfl))))))) (fun _ _ _ => rfl) L
        have hnv187 : ∀ q, q < 6 → rg_l (am_up (am_up (am_up (am_up (am_up (am_up h 17 1 (.long F.toInt64)) 17 2 (.long ((Hd - F).toInt64))) 17 3 (.long o.toInt64)) 17 4 (.long S.toInt64)) 17 0 (.long 0)) 17 5 (.long 0)) 17 q = eC 0 F (Hd - F) o S 0 q := by
          intro q hq_z
          match q, hq_z with
          | 0, _ => rfl
          | 1, _ => rfl
          | 2, _ => rfl
          | 3, _ => rfl
          | 4, _ => rfl
          | 5, _ => rfl
          | q + 6, hq_z => omega
        obtain ⟨wv187_z, rr, xv187_z, fv187_z⟩ := vw_66_2 (kd := 2) (by rw [k2_z]; exact Lv187 2 (by decide)) (fun q hq_z => by rw [hnv187 q hq_z]; exact eC_b q) q186_z
        subst rr
        rw [k2_z] at xv187_z
        rw [lawX_N (N := fun q => rg_l (am_up (am_up (am_up (am_up (am_up (am_up h 17 1 (.long F.toInt64)) 17 2 (.long ((Hd - F).toInt64))) 17 3 (.long o.toInt64)) 17 4 (.long S.toInt64)) 17 0 (.long 0)) 17 5 (.long 0)) 17 q) (N' := eC 0 F (Hd - F) o S 0) (Lv187 2 (by decide)) (Or.inr (congrArg Int64.toInt (hnv187 0 (by decide)))) (fun q _ hq_z => congrArg Int64.toInt (hnv187 q hq_z)), lawX_e (h := h) (h' := (am_up (am_up (am_up (am_up (am_up (am_up h 17 1 (.long F.toInt64)) 17 2 (.long ((Hd - F).toInt64))) 17 3 (.long o.toInt64)) 17 4 (.long S.toInt64)) 17 0 (.long 0)) 17 5 (.long 0))) (fun o q a_ b_ => (rg_v_other (by omega)).trans ((rg_v_other (by omega)).trans ((rg_v_other (by omega)).trans ((rg_v_other (by omega)).trans ((rg_v_other (by omega)).trans ((rg_v_other (by omega)).trans (rfl)))))))] at xv187_z
        replace hc_z : rn _ _ _ _ [.long wv187_z, .int 0, .ref 17] _ _ _ := hc_z
        replace hc_z := rn_bipush (w := 99) (am_cur_of (i := (121, 2, .bipush 99, (0, 0, 0), 0)) (by decide +kernel)) (by decide) hc_z
        replace hc_z := rn_iconst (w := 0) (am_cur_of (i := (123, 1, .iconst 0, (0, 0, 0), 0)) (by decide +kernel)) (by decide) hc_z
        replace hc_z := rn_callS (M' := am_m68) (ar := [.int 0, .int 99, .long wv187_z]) (rest := [.int 0, .ref 17]) (L := lv_args 0 [.long wv187_z, .int 99, .int 0]) (am_cur_of (i := (124, 3, .invokestatic 80, (68, 935, 3), 0)) (by decide +kernel)) rfl rfl rfl rfl hc_z
        obtain ⟨r188_z, h189_z, q190_z, hc_z⟩ := hc_z
        obtain ⟨xl, rr, hh, xe⟩ := wi_68 xv187_z (fun z e => lawX_b (L 2 (by decide)) (fun q _ => eC_b q) e) (by decide) q190_z
        replace hh := hh.symm
        subst rr
        subst hh
        rw [z0_z, z99_z] at xe
        have el : xl = ldX 2 h U F (Hd - F) o S := ldX_e (by
          unfold ldZ
          rw [if_pos b176_z.1]
          exact xe)
        replace hc_z : rn _ _ _ _ [.int xl, .int 0, .ref 17] _ _ _ := hc_z
        replace hc_z := rn_i2l (w := xl.toInt64) (am_cur_of (i := (127, 1, .i2l, (0, 0, 0), 0)) (by decide +kernel)) rfl hc_z
        replace hc_z := rn_lastore (N := 6) (q := 0) (am_cur_of (i := (128, 1, .lastore, (0, 0, 0), 0)) (by decide +kernel)) (by decide +kernel) rfl hc_z
        obtain ⟨p191_z, hc_z⟩ := hc_z
        replace hc_z := rn_aload (am_cur_of (i := (129, 2, .aload 4, (0, 0, 0), 0)) (by decide +kernel)) g4_z hc_z
        replace hc_z := rn_getR (x := 17) (am_cur_of (i := (131, 3, .getfield 66, (2, 7, 174), 0)) (by decide +kernel)) (by decide +kernel) hc_z
        replace hc_z := rn_iconst (w := 5) (am_cur_of (i := (134, 1, .iconst 5, (0, 0, 0), 0)) (by decide +kernel)) (by decide) hc_z
        replace hc_z := rn_iload_n (am_cur_of (i := (135, 1, .iload_n 3, (0, 0, 0), 0)) (by decide +kernel)) g3_z hc_z
        replace hc_z := rn_i2l (w := br.toInt64) (am_cur_of (i := (136, 1, .i2l, (0, 0, 0), 0)) (by decide +kernel)) rfl hc_z
        replace hc_z := rn_lastore (N := 6) (q := 5) (am_cur_of (i := (137, 1, .lastore, (0, 0, 0), 0)) (by decide +kernel)) (by decide +kernel) rfl hc_z
        obtain ⟨p192_z, hc_z⟩ := hc_z
        replace hc_z := rn_aload (am_cur_of (i := (138, 2, .aload 4, (0, 0, 0), 0)) (by decide +kernel)) g4_z hc_z
        replace hc_z := rn_iload_n (am_cur_of (i := (140, 1, .iload_n 1, (0, 0, 0), 0)) (by decide +kernel)) g1_z hc_z
        replace hc_z := rn_callV (M' := am_m66) (o := 11) (ar := [.int kd]) (rest := []) (L := lv_args 0 [.ref 11, .int kd]) (am_cur_of (i := (141, 3, .invokevirtual 76, (66, 925, 3), 0)) (by decide +kernel)) rfl rfl rfl rfl hc_z
        obtain ⟨r193_z, h194_z, q195_z, hc_z⟩ := hc_z
        have Lv196 : LW 2 (am_up (am_up h185_z 17 0 (.long xl.toInt64)) 17 5 (.long br.toInt64)) g := LW_e (fun o q a_ b_ => (rg_v_other (by omega)).trans ((rg_v_other (by omega)).trans (rfl))) (fun _ _ _ => rfl) (LW_e (fun o q a_ b_ => lw_v (fv187_z o q (by omega))) (fun _ _ _ => rfl) Lv187)
        have hnv196 : ∀ q, q < 6 → rg_l (am_up (am_up h185_z 17 0 (.long xl.toInt64)) 17 5 (.long br.toInt64)) 17 q = eC xl F (Hd - F) o S br q := by
          intro q hq_z
          match q, hq_z with
          | 0, _ => rfl
          | 1, _ => exact (lw_l (fv187_z 17 1 (by decide))).trans rfl
          | 2, _ => exact (lw_l (fv187_z 17 2 (by decide))).trans rfl
          | 3, _ => exact (lw_l (fv187_z 17 3 (by decide))).trans rfl
          | 4, _ => exact (lw_l (fv187_z 17 4 (by decide))).trans rfl
          | 5, _ => rfl
          | q + 6, hq_z => omega
        obtain ⟨wv196_z, rr, xv196_z, fv196_z⟩ := vw_66_2 (kd := kd) (Lv196 _ hk_z) (fun q hq_z => by rw [hnv196 q hq_z]; exact eC_b q) q195_z
        subst rr
        rw [lawX_N (N := fun q => rg_l (am_up (am_up h185_z 17 0 (.long xl.toInt64)) 17 5 (.long br.toInt64)) 17 q) (N' := eC xl F (Hd - F) o S br) (Lv196 _ hk_z) (Or.inr (congrArg Int64.toInt (hnv196 0 (by decide)))) (fun q _ hq_z => congrArg Int64.toInt (hnv196 q hq_z)), lawX_e (h := h) (h' := (am_up (am_up h185_z 17 0 (.long xl.toInt64)) 17 5 (.long br.toInt64))) (fun o q a_ b_ => (rg_v_other (by omega)).trans ((rg_v_other (by omega)).trans ((lw_v (fv187_z o q (by omega))).trans ((rg_v_other (by omega)).trans ((rg_v_other (by omega)).trans ((rg_v_other (by omega)).trans ((rg_v_other (by omega)).trans ((rg_v_other (by omega)).trans ((rg_v_other (by omega)).trans (rfl))))))))))] at xv196_z
        replace hc_z : rn _ _ _ _ [.long wv196_z] _ _ _ := hc_z
        replace hc_z := rn_lret (am_cur_of (i := (144, 1, .lreturn, (0, 0, 0), 0)) (by decide +kernel)) hc_z
        obtain ⟨e197_z, e198_z⟩ := hc_z
        refine ⟨_, e197_z, fun k2_z => ?_, fun k2_z => ?_, fun o q a_ b_ => by rw [e198_z]; exact ((fv196_z o q b_).trans ((up_ne (fun z => a_ z.1)).trans ((up_ne (fun z => a_ z.1)).trans (((fv187_z o q b_).trans ((up_ne (fun z => a_ z.1)).trans ((up_ne (fun z => a_ z.1)).trans ((up_ne (fun z => a_ z.1)).trans ((up_ne (fun z => a_ z.1)).trans ((up_ne (fun z => a_ z.1)).trans ((up_ne (fun z => a_ z.1)).trans (rfl))))))))))))⟩
        · exact absurd k2_z b159_z.1
        · rw [← el]
          exact xv196_z
theorem wo_65_153_23 {n : Nat} {r : Option Value} {h h' g : am_H} {kd o br F S Hd U : Int32} (D : h 153 0 = .ref 23) (L : LW 23 h g) (eF : rg_v h 154 0 = F) (eS : rg_v h 154 1 = S) (eH : rg_v h 23 0 = Hd) (eU : rg_v h 153 3 = U) (hk_z : kd.toNatClampNeg < 3) (hc_z : rn n am_m65 0 (lv_args 0 [.ref 153, .int kd, .int o, .int br]) [] h r h') : ∃ w : Int64, r = some (.long w) ∧ (kd = 2 → lR (lawX 23 h kd.toNatClampNeg (eC 0 F (Hd - F) o S br)) w.toInt) ∧ (¬ kd = 2 → lR (lawX 23 h kd.toNatClampNeg (eC (ldX 23 h U F (Hd - F) o S) F (Hd - F) o S br)) w.toInt) ∧ ∀ o q, ¬ o = 38 → ¬ o = 39 → h' o q = h o q := by
  have z0_z : (0 : Int32).toInt = 0 := by decide
  have z2_z : (2 : Int32).toInt = 2 := by decide
  have z99_z : (99 : Int32).toInt = 99 := by decide
  have k2_z : (2 : Int32).toNatClampNeg = 2 := by decide
  have g0_z : am_get (lv_args 0 [.ref 153, .int kd, .int o, .int br]) 0 = some (.ref 153) := rfl
  have g1_z : am_get (lv_args 0 [.ref 153, .int kd, .int o, .int br]) 1 = some (.int kd) := rfl
  have g2_z : am_get (lv_args 0 [.ref 153, .int kd, .int o, .int br]) 2 = some (.int o) := rfl
  have g3_z : am_get (lv_args 0 [.ref 153, .int kd, .int o, .int br]) 3 = some (.int br) := rfl
  replace hc_z := rn_aload_n (am_cur_of (i := (0, 1, .aload_n 0, (0, 0, 0), 0)) (by decide +kernel)) g0_z hc_z
  replace hc_z := rn_getM (x := 23) (am_cur_of (i := (1, 3, .getfield 18, (8, 0, 566), 0)) (by decide +kernel)) D hc_z
  replace hc_z := rn_getR (x := 32) (am_cur_of (i := (4, 3, .getfield 62, (1, 19, 315), 0)) (by decide +kernel)) (by decide +kernel) hc_z
  replace hc_z := rn_astore (am_cur_of (i := (7, 2, .astore 4, (0, 0, 0), 0)) (by decide +kernel)) hc_z
  obtain ⟨_, s199_z, s200_z, g4_z, hc_z⟩ := hc_z
  replace g0_z := s199_z 0 _ (by decide) rfl g0_z
  replace g1_z := s199_z 1 _ (by decide) rfl g1_z
  replace g2_z := s199_z 2 _ (by decide) rfl g2_z
  replace g3_z := s199_z 3 _ (by decide) rfl g3_z
  clear s199_z s200_z
  replace hc_z := rn_aload (am_cur_of (i := (9, 2, .aload 4, (0, 0, 0), 0)) (by decide +kernel)) g4_z hc_z
  replace hc_z := rn_getR (x := 38) (am_cur_of (i := (11, 3, .getfield 66, (2, 7, 174), 0)) (by decide +kernel)) (by decide +kernel) hc_z
  replace hc_z := rn_iconst (w := 1) (am_cur_of (i := (14, 1, .iconst 1, (0, 0, 0), 0)) (by decide +kernel)) (by decide) hc_z
  replace hc_z := rn_aload_n (am_cur_of (i := (15, 1, .aload_n 0, (0, 0, 0), 0)) (by decide +kernel)) g0_z hc_z
  replace hc_z := rn_getR (x := 154) (am_cur_of (i := (16, 3, .getfield 12, (8, 1, 569), 0)) (by decide +kernel)) (by decide +kernel) hc_z
  replace hc_z := rn_getI (v := F) (am_cur_of (i := (19, 3, .getfield 49, (5, 0, 463), 0)) (by decide +kernel)) (by decide +kernel) eF hc_z
  replace hc_z := rn_i2l (w := F.toInt64) (am_cur_of (i := (22, 1, .i2l, (0, 0, 0), 0)) (by decide +kernel)) rfl hc_z
  replace hc_z := rn_lastore (N := 6) (q := 1) (am_cur_of (i := (23, 1, .lastore, (0, 0, 0), 0)) (by decide +kernel)) (by decide +kernel) rfl hc_z
  obtain ⟨p201_z, hc_z⟩ := hc_z
  replace hc_z := rn_aload (am_cur_of (i := (24, 2, .aload 4, (0, 0, 0), 0)) (by decide +kernel)) g4_z hc_z
  replace hc_z := rn_getR (x := 38) (am_cur_of (i := (26, 3, .getfield 66, (2, 7, 174), 0)) (by decide +kernel)) (by decide +kernel) hc_z
  replace hc_z := rn_iconst (w := 2) (am_cur_of (i := (29, 1, .iconst 2, (0, 0, 0), 0)) (by decide +kernel)) (by decide) hc_z
  replace hc_z := rn_aload_n (am_cur_of (i := (30, 1, .aload_n 0, (0, 0, 0), 0)) (by decide +kernel)) g0_z hc_z
  replace hc_z := rn_getM (x := 23) (am_cur_of (i := (31, 3, .getfield 18, (8, 0, 566), 0)) (by decide +kernel)) (show (am_up h 38 1 (.long F.toInt64)) 153 0 = .ref 23 from D) hc_z
  replace hc_z := rn_getI (v := Hd) (am_cur_of (i := (34, 3, .getfield 52, (1, 0, 249), 0)) (by decide +kernel)) (by decide +kernel) ((rg_v_other (by omega)).trans (eH)) hc_z
  replace hc_z := rn_aload_n (am_cur_of (i := (37, 1, .aload_n 0, (0, 0, 0), 0)) (by decide +kernel)) g0_z hc_z
  replace hc_z := rn_getR (x := 154) (am_cur_of (i := (38, 3, .getfield 12, (8, 1, 569), 0)) (by decide +kernel)) (by decide +kernel) hc_z
  replace hc_z := rn_getI (v := F) (am_cur_of (i := (41, 3, .getfield 49, (5, 0, 463), 0)) (by decide +kernel)) (by decide +kernel) ((rg_v_other (by omega)).trans (eF)) hc_z
  replace hc_z := rn_isub (w := Hd - F) (am_cur_of (i := (44, 1, .isub, (0, 0, 0), 0)) (by decide +kernel)) rfl hc_z
  replace hc_z := rn_i2l (w := (Hd - F).toInt64) (am_cur_of (i := (45, 1, .i2l, (0, 0, 0), 0)) (by decide +kernel)) rfl hc_z
  replace hc_z := rn_lastore (N := 6) (q := 2) (am_cur_of (i := (46, 1, .lastore, (0, 0, 0), 0)) (by decide +kernel)) (by decide +kernel) rfl hc_z
  obtain ⟨p202_z, hc_z⟩ := hc_z
  replace hc_z := rn_aload (am_cur_of (i := (47, 2, .aload 4, (0, 0, 0), 0)) (by decide +kernel)) g4_z hc_z
  replace hc_z := rn_getR (x := 38) (am_cur_of (i := (49, 3, .getfield 66, (2, 7, 174), 0)) (by decide +kernel)) (by decide +kernel) hc_z
  replace hc_z := rn_iconst (w := 3) (am_cur_of (i := (52, 1, .iconst 3, (0, 0, 0), 0)) (by decide +kernel)) (by decide) hc_z
  replace hc_z := rn_iload_n (am_cur_of (i := (53, 1, .iload_n 2, (0, 0, 0), 0)) (by decide +kernel)) g2_z hc_z
  replace hc_z := rn_i2l (w := o.toInt64) (am_cur_of (i := (54, 1, .i2l, (0, 0, 0), 0)) (by decide +kernel)) rfl hc_z
  replace hc_z := rn_lastore (N := 6) (q := 3) (am_cur_of (i := (55, 1, .lastore, (0, 0, 0), 0)) (by decide +kernel)) (by decide +kernel) rfl hc_z
  obtain ⟨p203_z, hc_z⟩ := hc_z
  replace hc_z := rn_aload (am_cur_of (i := (56, 2, .aload 4, (0, 0, 0), 0)) (by decide +kernel)) g4_z hc_z
  replace hc_z := rn_getR (x := 38) (am_cur_of (i := (58, 3, .getfield 66, (2, 7, 174), 0)) (by decide +kernel)) (by decide +kernel) hc_z
  replace hc_z := rn_iconst (w := 4) (am_cur_of (i := (61, 1, .iconst 4, (0, 0, 0), 0)) (by decide +kernel)) (by decide) hc_z
  replace hc_z := rn_aload_n (am_cur_of (i := (62, 1, .aload_n 0, (0, 0, 0), 0)) (by decide +kernel)) g0_z hc_z
  replace hc_z := rn_getR (x := 154) (am_cur_of (i := (63, 3, .getfield 12, (8, 1, 569), 0)) (by decide +kernel)) (by decide +kernel) hc_z
  replace hc_z := rn_getI (v := S) (am_cur_of (i := (66, 3, .getfield 59, (5, 1, 470), 0)) (by decide +kernel)) (by decide +kernel) ((rg_v_other (by omega)).trans ((rg_v_other (by omega)).trans ((rg_v_other (by omega)).trans (eS)))) hc_z
  replace hc_z := rn_i2l (w := S.toInt64) (am_cur_of (i := (69, 1, .i2l, (0, 0, 0), 0)) (by decide +kernel)) rfl hc_z
  replace hc_z := rn_lastore (N := 6) (q := 4) (am_cur_of (i := (70, 1, .lastore, (0, 0, 0), 0)) (by decide +kernel)) (by decide +kernel) rfl hc_z
  obtain ⟨p204_z, hc_z⟩ := hc_z
  replace hc_z := rn_aload (am_cur_of (i := (71, 2, .aload 4, (0, 0, 0), 0)) (by decide +kernel)) g4_z hc_z
  replace hc_z := rn_getR (x := 38) (am_cur_of (i := (73, 3, .getfield 66, (2, 7, 174), 0)) (by decide +kernel)) (by decide +kernel) hc_z
  replace hc_z := rn_iconst (w := 0) (am_cur_of (i := (76, 1, .iconst 0, (0, 0, 0), 0)) (by decide +kernel)) (by decide) hc_z
  replace hc_z := rn_lconst (w := 0) (am_cur_of (i := (77, 1, .lconst 0, (0, 0, 0), 0)) (by decide +kernel)) rfl hc_z
  replace hc_z := rn_lastore (N := 6) (q := 0) (am_cur_of (i := (78, 1, .lastore, (0, 0, 0), 0)) (by decide +kernel)) (by decide +kernel) rfl hc_z
  obtain ⟨p205_z, hc_z⟩ := hc_z
  replace hc_z := rn_aload (am_cur_of (i := (79, 2, .aload 4, (0, 0, 0), 0)) (by decide +kernel)) g4_z hc_z
  replace hc_z := rn_getR (x := 38) (am_cur_of (i := (81, 3, .getfield 66, (2, 7, 174), 0)) (by decide +kernel)) (by decide +kernel) hc_z
  replace hc_z := rn_iconst (w := 5) (am_cur_of (i := (84, 1, .iconst 5, (0, 0, 0), 0)) (by decide +kernel)) (by decide) hc_z
  replace hc_z := rn_lconst (w := 0) (am_cur_of (i := (85, 1, .lconst 0, (0, 0, 0), 0)) (by decide +kernel)) rfl hc_z
  replace hc_z := rn_lastore (N := 6) (q := 5) (am_cur_of (i := (86, 1, .lastore, (0, 0, 0), 0)) (by decide +kernel)) (by decide +kernel) rfl hc_z
  obtain ⟨p206_z, hc_z⟩ := hc_z
  replace hc_z := rn_iload_n (am_cur_of (i := (87, 1, .iload_n 1, (0, 0, 0), 0)) (by decide +kernel)) g1_z hc_z
  replace hc_z := rn_iconst (w := 2) (am_cur_of (i := (88, 1, .iconst 2, (0, 0, 0), 0)) (by decide +kernel)) (by decide) hc_z
  replace hc_z := rn_cmp (am_cur_of (i := (89, 3, .if_icmp .eq 40, (70, 0, 0), 0)) (by decide +kernel)) hc_z
  rcases hc_z with ⟨b207_z, hc_z⟩ | ⟨b207_z, hc_z⟩
  · replace b207_z : kd = (2 : Int32) ∧ kd.toInt = (2 : Int32).toInt := b207_z
    replace hc_z := rn_aload (am_cur_of (i := (129, 2, .aload 4, (0, 0, 0), 0)) (by decide +kernel)) g4_z hc_z
    replace hc_z := rn_getR (x := 38) (am_cur_of (i := (131, 3, .getfield 66, (2, 7, 174), 0)) (by decide +kernel)) (by decide +kernel) hc_z
    replace hc_z := rn_iconst (w := 5) (am_cur_of (i := (134, 1, .iconst 5, (0, 0, 0), 0)) (by decide +kernel)) (by decide) hc_z
    replace hc_z := rn_iload_n (am_cur_of (i := (135, 1, .iload_n 3, (0, 0, 0), 0)) (by decide +kernel)) g3_z hc_z
    replace hc_z := rn_i2l (w := br.toInt64) (am_cur_of (i := (136, 1, .i2l, (0, 0, 0), 0)) (by decide +kernel)) rfl hc_z
    replace hc_z := rn_lastore (N := 6) (q := 5) (am_cur_of (i := (137, 1, .lastore, (0, 0, 0), 0)) (by decide +kernel)) (by decide +kernel) rfl hc_z
    obtain ⟨p208_z, hc_z⟩ := hc_z
    replace hc_z := rn_aload (am_cur_of (i := (138, 2, .aload 4, (0, 0, 0), 0)) (by decide +kernel)) g4_z hc_z
    replace hc_z := rn_iload_n (am_cur_of (i := (140, 1, .iload_n 1, (0, 0, 0), 0)) (by decide +kernel)) g1_z hc_z
    replace hc_z := rn_callV (M' := am_m66) (o := 32) (ar := [.int kd]) (rest := []) (L := lv_args 0 [.ref 32, .int kd]) (am_cur_of (i := (141, 3, .invokevirtual 76, (66, 925, 3), 0)) (by decide +kernel)) rfl rfl rfl rfl hc_z
    obtain ⟨r209_z, h210_z, q211_z, hc_z⟩ := hc_z
    have Lv212 : LW 23 (am_up (am_up (am_up (am_up (am_up (am_up (am_up h 38 1 (.long F.toInt64)) 38 2 (.long ((Hd - F).toInt64))) 38 3 (.long o.toInt64)) 38 4 (.long S.toInt64)) 38 0 (.long 0)) 38 5 (.long 0)) 38 5 (.long br.toInt64)) g := LW_e (fun o q a_ b_ => (rg_v_other (by omega)).trans ((rg_v_other (by omega)).trans ((rg_v_other (by omega)).trans ((rg_v_other (by omega)).trans ((rg_v_other (by omega)).trans ((rg_v_other (by omega)).trans ((rg_v_other (by omega)).trans (rfl)))))))) (fun _ _ _ => rfl) L
    have hnv212 : ∀ q, q < 6 → rg_l (am_up (am_up (am_up (am_up (am_up (am_up (am_up h 38 1 (.long F.toInt64)) 38 2 (.long ((Hd - F).toInt64))) 38 3 (.long o.toInt64)) 38 4 (.long S.toInt64)) 38 0 (.long 0)) 38 5 (.long 0)) 38 5 (.long br.toInt64)) 38 q = eC 0 F (Hd - F) o S br q := by
      intro q hq_z
      match q, hq_z with
      | 0, _ => rfl
      | 1, _ => rfl
      | 2, _ => rfl
      | 3, _ => rfl
      | 4, _ => rfl
      | 5, _ => rfl
      | q + 6, hq_z => omega
    obtain ⟨wv212_z, rr, xv212_z, fv212_z⟩ := vw_66_23 (kd := kd) (Lv212 _ hk_z) (fun q hq_z => by rw [hnv212 q hq_z]; exact eC_b q) q211_z
    subst rr
    rw [lawX_N (N := fun q => rg_l (am_up (am_up (am_up (am_up (am_up (am_up (am_up h 38 1 (.long F.toInt64)) 38 2 (.long ((Hd - F).toInt64))) 38 3 (.long o.toInt64)) 38 4 (.long S.toInt64)) 38 0 (.long 0)) 38 5 (.long 0)) 38 5 (.long br.toInt64)) 38 q) (N' := eC 0 F (Hd - F) o S br) (Lv212 _ hk_z) (Or.inr (congrArg Int64.toInt (hnv212 0 (by decide)))) (fun q _ hq_z => congrArg Int64.toInt (hnv212 q hq_z)), lawX_e (h := h) (h' := (am_up (am_up (am_up (am_up (am_up (am_up (am_up h 38 1 (.long F.toInt64)) 38 2 (.long ((Hd - F).toInt64))) 38 3 (.long o.toInt64)) 38 4 (.long S.toInt64)) 38 0 (.long 0)) 38 5 (.long 0)) 38 5 (.long br.toInt64))) (fun o q a_ b_ => (rg_v_other (by omega)).trans ((rg_v_other (by omega)).trans ((rg_v_other (by omega)).trans ((rg_v_other (by omega)).trans ((rg_v_other (by omega)).trans ((rg_v_other (by omega)).trans ((rg_v_other (by omega)).trans (rfl))))))))] at xv212_z
    replace hc_z : rn _ _ _ _ [.long wv212_z] _ _ _ := hc_z
    replace hc_z := rn_lret (am_cur_of (i := (144, 1, .lreturn, (0, 0, 0), 0)) (by decide +kernel)) hc_z
    obtain ⟨e213_z, e214_z⟩ := hc_z
    refine ⟨_, e213_z, fun k2_z => ?_, fun k2_z => ?_, fun o q a_ b_ => by rw [e214_z]; exact ((fv212_z o q b_).trans ((up_ne (fun z => a_ z.1)).trans ((up_ne (fun z => a_ z.1)).trans ((up_ne (fun z => a_ z.1)).trans ((up_ne (fun z => a_ z.1)).trans ((up_ne (fun z => a_ z.1)).trans ((up_ne (fun z => a_ z.1)).trans ((up_ne (fun z => a_ z.1)).trans (rfl)))))))))⟩
    · exact xv212_z
    · exact absurd b207_z.1 k2_z
  · replace b207_z : ¬ kd = (2 : Int32) ∧ ¬ kd.toInt = (2 : Int32).toInt := b207_z
    replace hc_z := rn_aload (am_cur_of (i := (92, 2, .aload 4, (0, 0, 0), 0)) (by decide +kernel)) g4_z hc_z
    replace hc_z := rn_getR (x := 37) (am_cur_of (i := (94, 3, .getfield 72, (2, 6, 172), 0)) (by decide +kernel)) (by decide +kernel) hc_z
    replace hc_z := rn_iload_n (am_cur_of (i := (97, 1, .iload_n 1, (0, 0, 0), 0)) (by decide +kernel)) g1_z hc_z
    replace hc_z := rn_baload (N := 3) (q := kd.toNatClampNeg) (v := rg_v h 37 kd.toNatClampNeg) (am_cur_of (i := (98, 1, .baload, (0, 0, 0), 0)) (by decide +kernel)) (by decide +kernel) rfl ((rg_v_other (by omega)).trans ((rg_v_other (by omega)).trans ((rg_v_other (by omega)).trans ((rg_v_other (by omega)).trans ((rg_v_other (by omega)).trans ((rg_v_other (by omega)).trans (rfl))))))) hc_z
    obtain ⟨p215_z, hc_z⟩ := hc_z
    replace hc_z := rn_if (am_cur_of (i := (99, 3, .ifCond .eq 30, (70, 0, 0), 0)) (by decide +kernel)) hc_z
    rcases hc_z with ⟨b216_z, hc_z⟩ | ⟨b216_z, hc_z⟩
    · replace b216_z : (rg_v h 37 kd.toNatClampNeg) = (0 : Int32) ∧ (rg_v h 37 kd.toNatClampNeg).toInt = (0 : Int32).toInt := b216_z
      replace hc_z := rn_aload (am_cur_of (i := (129, 2, .aload 4, (0, 0, 0), 0)) (by decide +kernel)) g4_z hc_z
      replace hc_z := rn_getR (x := 38) (am_cur_of (i := (131, 3, .getfield 66, (2, 7, 174), 0)) (by decide +kernel)) (by decide +kernel) hc_z
      replace hc_z := rn_iconst (w := 5) (am_cur_of (i := (134, 1, .iconst 5, (0, 0, 0), 0)) (by decide +kernel)) (by decide) hc_z
      replace hc_z := rn_iload_n (am_cur_of (i := (135, 1, .iload_n 3, (0, 0, 0), 0)) (by decide +kernel)) g3_z hc_z
      replace hc_z := rn_i2l (w := br.toInt64) (am_cur_of (i := (136, 1, .i2l, (0, 0, 0), 0)) (by decide +kernel)) rfl hc_z
      replace hc_z := rn_lastore (N := 6) (q := 5) (am_cur_of (i := (137, 1, .lastore, (0, 0, 0), 0)) (by decide +kernel)) (by decide +kernel) rfl hc_z
      obtain ⟨p217_z, hc_z⟩ := hc_z
      replace hc_z := rn_aload (am_cur_of (i := (138, 2, .aload 4, (0, 0, 0), 0)) (by decide +kernel)) g4_z hc_z
      replace hc_z := rn_iload_n (am_cur_of (i := (140, 1, .iload_n 1, (0, 0, 0), 0)) (by decide +kernel)) g1_z hc_z
      replace hc_z := rn_callV (M' := am_m66) (o := 32) (ar := [.int kd]) (rest := []) (L := lv_args 0 [.ref 32, .int kd]) (am_cur_of (i := (141, 3, .invokevirtual 76, (66, 925, 3), 0)) (by decide +kernel)) rfl rfl rfl rfl hc_z
      obtain ⟨r218_z, h219_z, q220_z, hc_z⟩ := hc_z
      have Lv221 : LW 23 (am_up (am_up (am_up (am_up (am_up (am_up (am_up h 38 1 (.long F.toInt64)) 38 2 (.long ((Hd - F).toInt64))) 38 3 (.long o.toInt64)) 38 4 (.long S.toInt64)) 38 0 (.long 0)) 38 5 (.long 0)) 38 5 (.long br.toInt64)) g := LW_e (fun o q a_ b_ => (rg_v_other (by omega)).trans ((rg_v_other (by omega)).trans ((rg_v_other (by omega)).trans ((rg_v_other (by omega)).trans ((rg_v_other (by omega)).trans ((rg_v_other (by omega)).trans ((rg_v_other (by omega)).trans (rfl)))))))) (fun _ _ _ => rfl) L
      have hnv221 : ∀ q, q < 6 → rg_l (am_up (am_up (am_up (am_up (am_up (am_up (am_up h 38 1 (.long F.toInt64)) 38 2 (.long ((Hd - F).toInt64))) 38 3 (.long o.toInt64)) 38 4 (.long S.toInt64)) 38 0 (.long 0)) 38 5 (.long 0)) 38 5 (.long br.toInt64)) 38 q = eC 0 F (Hd - F) o S br q := by
        intro q hq_z
        match q, hq_z with
        | 0, _ => rfl
        | 1, _ => rfl
        | 2, _ => rfl
        | 3, _ => rfl
        | 4, _ => rfl
        | 5, _ => rfl
        | q + 6, hq_z => omega
      obtain ⟨wv221_z, rr, xv221_z, fv221_z⟩ := vw_66_23 (kd := kd) (Lv221 _ hk_z) (fun q hq_z => by rw [hnv221 q hq_z]; exact eC_b q) q220_z
      subst rr
      rw [lawX_N (N := fun q => rg_l (am_up (am_up (am_up (am_up (am_up (am_up (am_up h 38 1 (.long F.toInt64)) 38 2 (.long ((Hd - F).toInt64))) 38 3 (.long o.toInt64)) 38 4 (.long S.toInt64)) 38 0 (.long 0)) 38 5 (.long 0)) 38 5 (.long br.toInt64)) 38 q) (N' := eC 0 F (Hd - F) o S br) (Lv221 _ hk_z) (Or.inr (congrArg Int64.toInt (hnv221 0 (by decide)))) (fun q _ hq_z => congrArg Int64.toInt (hnv221 q hq_z)), lawX_e (h := h) (h' := (am_up (am_up (am_up (am_up (am_up (am_up (am_up h 38 1 (.long F.toInt64)) 38 2 (.long ((Hd - F).toInt64))) 38 3 (.long o.toInt64)) 38 4 (.long S.toInt64)) 38 0 (.long 0)) 38 5 (.long 0)) 38 5 (.long br.toInt64))) (fun o q a_ b_ => (rg_v_other (by omega)).trans ((rg_v_other (by omega)).trans ((rg_v_other (by omega)).trans ((rg_v_other (by omega)).trans ((rg_v_other (by omega)).trans ((rg_v_other (by omega)).trans ((rg_v_other (by omega)).trans (rfl))))))))] at xv221_z
      replace hc_z : rn _ _ _ _ [.long wv221_z] _ _ _ := hc_z
      replace hc_z := rn_lret (am_cur_of (i := (144, 1, .lreturn, (0, 0, 0), 0)) (by decide +kernel)) hc_z
      obtain ⟨e222_z, e223_z⟩ := hc_z
      refine ⟨_, e222_z, fun k2_z => ?_, fun k2_z => ?_, fun o q a_ b_ => by rw [e223_z]; exact ((fv221_z o q b_).trans ((up_ne (fun z => a_ z.1)).trans ((up_ne (fun z => a_ z.1)).trans ((up_ne (fun z => a_ z.1)).trans ((up_ne (fun z => a_ z.1)).trans ((up_ne (fun z => a_ z.1)).trans ((up_ne (fun z => a_ z.1)).trans ((up_ne (fun z => a_ z.1)).trans (rfl)))))))))⟩
      · exact absurd k2_z b207_z.1
      · rw [lawX_N (N' := eC 0 F (Hd - F) o S br) (L _ hk_z) (Or.inl b216_z.1) (fun q q1_z q6_z => by
          match q, q1_z, q6_z with
          | 1, _, _ => rfl
          | 2, _, _ => rfl
          | 3, _, _ => rfl
          | 4, _, _ => rfl
          | 5, _, _ => rfl
          | q + 6, _, z => exact absurd z (by omega))]
        exact xv221_z
    · replace b216_z : ¬ (rg_v h 37 kd.toNatClampNeg) = (0 : Int32) ∧ ¬ (rg_v h 37 kd.toNatClampNeg).toInt = (0 : Int32).toInt := b216_z
      replace hc_z := rn_aload_n (am_cur_of (i := (102, 1, .aload_n 0, (0, 0, 0), 0)) (by decide +kernel)) g0_z hc_z
      replace hc_z := rn_getI (v := U) (am_cur_of (i := (103, 3, .getfield 33, (8, 3, 575), 0)) (by decide +kernel)) (by decide +kernel) ((rg_v_other (by omega)).trans ((rg_v_other (by omega)).trans ((rg_v_other (by omega)).trans ((rg_v_other (by omega)).trans ((rg_v_other (by omega)).trans ((rg_v_other (by omega)).trans (eU))))))) hc_z
      replace hc_z := rn_if (am_cur_of (i := (106, 3, .ifCond .ne 23, (70, 0, 0), 0)) (by decide +kernel)) hc_z
      rcases hc_z with ⟨b224_z, hc_z⟩ | ⟨b224_z, hc_z⟩
      · replace b224_z : ¬ U = (0 : Int32) ∧ ¬ U.toInt = (0 : Int32).toInt := b224_z
        replace hc_z := rn_aload (am_cur_of (i := (129, 2, .aload 4, (0, 0, 0), 0)) (by decide +kernel)) g4_z hc_z
        replace hc_z := rn_getR (x := 38) (am_cur_of (i := (131, 3, .getfield 66, (2, 7, 174), 0)) (by decide +kernel)) (by decide +kernel) hc_z
        replace hc_z := rn_iconst (w := 5) (am_cur_of (i := (134, 1, .iconst 5, (0, 0, 0), 0)) (by decide +kernel)) (by decide) hc_z
        replace hc_z := rn_iload_n (am_cur_of (i := (135, 1, .iload_n 3, (0, 0, 0), 0)) (by decide +kernel)) g3_z hc_z
        replace hc_z := rn_i2l (w := br.toInt64) (am_cur_of (i := (136, 1, .i2l, (0, 0, 0), 0)) (by decide +kernel)) rfl hc_z
        replace hc_z := rn_lastore (N := 6) (q := 5) (am_cur_of (i := (137, 1, .lastore, (0, 0, 0), 0)) (by decide +kernel)) (by decide +kernel) rfl hc_z
        obtain ⟨p225_z, hc_z⟩ := hc_z
        replace hc_z := rn_aload (am_cur_of (i := (138, 2, .aload 4, (0, 0, 0), 0)) (by decide +kernel)) g4_z hc_z
        replace hc_z := rn_iload_n (am_cur_of (i := (140, 1, .iload_n 1, (0, 0, 0), 0)) (by decide +kernel)) g1_z hc_z
        replace hc_z := rn_callV (M' := am_m66) (o := 32) (ar := [.int kd]) (rest := []) (L := lv_args 0 [.ref 32, .int kd]) (am_cur_of (i := (141, 3, .invokevirtual 76, (66, 925, 3), 0)) (by decide +kernel)) rfl rfl rfl rfl hc_z
        obtain ⟨r226_z, h227_z, q228_z, hc_z⟩ := hc_z
        have Lv229 : LW 23 (am_up (am_up (am_up (am_up (am_up (am_up (am_up h 38 1 (.long F.toInt64)) 38 2 (.long ((Hd - F).toInt64))) 38 3 (.long o.toInt64)) 38 4 (.long S.toInt64)) 38 0 (.long 0)) 38 5 (.long 0)) 38 5 (.long br.toInt64)) g := LW_e (fun o q a_ b_ => (rg_v_other (by omega)).trans ((rg_v_other (by omega)).trans ((rg_v_other (by omega)).trans ((rg_v_other (by omega)).trans ((rg_v_other (by omega)).trans ((rg_v_other (by omega)).trans ((rg_v_other (by omega)).trans (rfl)))))))) (fun _ _ _ => rfl) L
        have hnv229 : ∀ q, q < 6 → rg_l (am_up (am_up (am_up (am_up (am_up (am_up (am_up h 38 1 (.long F.toInt64)) 38 2 (.long ((Hd - F).toInt64))) 38 3 (.long o.toInt64)) 38 4 (.long S.toInt64)) 38 0 (.long 0)) 38 5 (.long 0)) 38 5 (.long br.toInt64)) 38 q = eC 0 F (Hd - F) o S br q := by
          intro q hq_z
          match q, hq_z with
          | 0, _ => rfl
          | 1, _ => rfl
          | 2, _ => rfl
          | 3, _ => rfl
          | 4, _ => rfl
          | 5, _ => rfl
          | q + 6, hq_z => omega
        obtain ⟨wv229_z, rr, xv229_z, fv229_z⟩ := vw_66_23 (kd := kd) (Lv229 _ hk_z) (fun q hq_z => by rw [hnv229 q hq_z]; exact eC_b q) q228_z
        subst rr
        rw [lawX_N (N := fun q => rg_l (am_up (am_up (am_up (am_up (am_up (am_up (am_up h 38 1 (.long F.toInt64)) 38 2 (.long ((Hd - F).toInt64))) 38 3 (.long o.toInt64)) 38 4 (.long S.toInt64)) 38 0 (.long 0)) 38 5 (.long 0)) 38 5 (.long br.toInt64)) 38 q) (N' := eC 0 F (Hd - F) o S br) (Lv229 _ hk_z) (Or.inr (congrArg Int64.toInt (hnv229 0 (by decide)))) (fun q _ hq_z => congrArg Int64.toInt (hnv229 q hq_z)), lawX_e (h := h) (h' := (am_up (am_up (am_up (am_up (am_up (am_up (am_up h 38 1 (.long F.toInt64)) 38 2 (.long ((Hd - F).toInt64))) 38 3 (.long o.toInt64)) 38 4 (.long S.toInt64)) 38 0 (.long 0)) 38 5 (.long 0)) 38 5 (.long br.toInt64))) (fun o q a_ b_ => (rg_v_other (by omega)).trans ((rg_v_other (by omega)).trans ((rg_v_other (by omega)).trans ((rg_v_other (by omega)).trans ((rg_v_other (by omega)).trans ((rg_v_other (by omega)).trans ((rg_v_other (by omega)).trans (rfl))))))))] at xv229_z
        replace hc_z : rn _ _ _ _ [.long wv229_z] _ _ _ := hc_z
        replace hc_z := rn_lret (am_cur_of (i := (144, 1, .lreturn, (0, 0, 0), 0)) (by decide +kernel)) hc_z
        obtain ⟨e230_z, e231_z⟩ := hc_z
        refine ⟨_, e230_z, fun k2_z => ?_, fun k2_z => ?_, fun o q a_ b_ => by rw [e231_z]; exact ((fv229_z o q b_).trans ((up_ne (fun z => a_ z.1)).trans ((up_ne (fun z => a_ z.1)).trans ((up_ne (fun z => a_ z.1)).trans ((up_ne (fun z => a_ z.1)).trans ((up_ne (fun z => a_ z.1)).trans ((up_ne (fun z => a_ z.1)).trans ((up_ne (fun z => a_ z.1)).trans (rfl)))))))))⟩
        · exact absurd k2_z b207_z.1
        · rw [show ldX 23 h U F (Hd - F) o S = 0 from (ldX_e (by
            unfold ldZ
            rw [if_neg b224_z.1]
            decide)).symm]
          exact xv229_z
      · replace b224_z : U = (0 : Int32) ∧ U.toInt = (0 : Int32).toInt := b224_z
        replace hc_z := rn_aload (am_cur_of (i := (109, 2, .aload 4, (0, 0, 0), 0)) (by decide +kernel)) g4_z hc_z
        replace hc_z := rn_getR (x := 38) (am_cur_of (i := (111, 3, .getfield 66, (2, 7, 174), 0)) (by decide +kernel)) (by decide +kernel) hc_z
        replace hc_z := rn_iconst (w := 0) (am_cur_of (i := (114, 1, .iconst 0, (0, 0, 0), 0)) (by decide +kernel)) (by decide) hc_z
        replace hc_z := rn_aload (am_cur_of (i := (115, 2, .aload 4, (0, 0, 0), 0)) (by decide +kernel)) g4_z hc_z
        replace hc_z := rn_iconst (w := 2) (am_cur_of (i := (117, 1, .iconst 2, (0, 0, 0), 0)) (by decide +kernel)) (by decide) hc_z
        replace hc_z := rn_callV (M' := am_m66) (o := 32) (ar := [.int 2]) (rest := [.int 0, .ref 38]) (L := lv_args 0 [.ref 32, .int 2]) (am_cur_of (i := (118, 3, .invokevirtual 76, (66, 925, 3), 0)) (by decide +kernel)) rfl rfl rfl rfl hc_z
        obtain ⟨r232_z, h233_z, q234_z, hc_z⟩ := hc_z
        have Lv235 : LW 23 (am_up (am_up (am_up (am_up (am_up (am_up h 38 1 (.long F.toInt64)) 38 2 (.long ((Hd - F).toInt64))) 38 3 (.long o.toInt64)) 38 4 (.long S.toInt64)) 38 0 (.long 0)) 38 5 (.long 0)) g := LW_e (fun o q a_ b_ => (rg_v_other (by omega)).trans ((rg_v_other (by omega)).trans ((rg_v_other (by omega)).trans ((rg_v_other (by omega)).trans ((rg_v_other (by omega)).trans ((rg_v_other (by omega)).trans (rfl))))))) (fun _ _ _ => rfl) L
        have hnv235 : ∀ q, q < 6 → rg_l (am_up (am_up (am_up (am_up (am_up (am_up h 38 1 (.long F.toInt64)) 38 2 (.long ((Hd - F).toInt64))) 38 3 (.long o.toInt64)) 38 4 (.long S.toInt64)) 38 0 (.long 0)) 38 5 (.long 0)) 38 q = eC 0 F (Hd - F) o S 0 q := by
          intro q hq_z
          match q, hq_z with
          | 0, _ => rfl
          | 1, _ => rfl
          | 2, _ => rfl
          | 3, _ => rfl
          | 4, _ => rfl
          | 5, _ => rfl
          | q + 6, hq_z => omega
        obtain ⟨wv235_z, rr, xv235_z, fv235_z⟩ := vw_66_23 (kd := 2) (by rw [k2_z]; exact Lv235 2 (by decide)) (fun q hq_z => by rw [hnv235 q hq_z]; exact eC_b q) q234_z
        subst rr
        rw [k2_z] at xv235_z
        rw [lawX_N (N := fun q => rg_l (am_up (am_up (am_up (am_up (am_up (am_up h 38 1 (.long F.toInt64)) 38 2 (.long ((Hd - F).toInt64))) 38 3 (.long o.toInt64)) 38 4 (.long S.toInt64)) 38 0 (.long 0)) 38 5 (.long 0)) 38 q) (N' := eC 0 F (Hd - F) o S 0) (Lv235 2 (by decide)) (Or.inr (congrArg Int64.toInt (hnv235 0 (by decide)))) (fun q _ hq_z => congrArg Int64.toInt (hnv235 q hq_z)), lawX_e (h := h) (h' := (am_up (am_up (am_up (am_up (am_up (am_up h 38 1 (.long F.toInt64)) 38 2 (.long ((Hd - F).toInt64))) 38 3 (.long o.toInt64)) 38 4 (.long S.toInt64)) 38 0 (.long 0)) 38 5 (.long 0))) (fun o q a_ b_ => (rg_v_other (by omega)).trans ((rg_v_other (by omega)).trans ((rg_v_other (by omega)).trans ((rg_v_other (by omega)).trans ((rg_v_other (by omega)).trans ((rg_v_other (by omega)).trans (rfl)))))))] at xv235_z
        replace hc_z : rn _ _ _ _ [.long wv235_z, .int 0, .ref 38] _ _ _ := hc_z
        replace hc_z := rn_bipush (w := 99) (am_cur_of (i := (121, 2, .bipush 99, (0, 0, 0), 0)) (by decide +kernel)) (by decide) hc_z
        replace hc_z := rn_iconst (w := 0) (am_cur_of (i := (123, 1, .iconst 0, (0, 0, 0), 0)) (by decide +kernel)) (by decide) hc_z
        replace hc_z := rn_callS (M' := am_m68) (ar := [.int 0, .int 99, .long wv235_z]) (rest := [.int 0, .ref 38]) (L := lv_args 0 [.long wv235_z, .int 99, .int 0]) (am_cur_of (i := (124, 3, .invokestatic 80, (68, 935, 3), 0)) (by decide +kernel)) rfl rfl rfl rfl hc_z
        obtain ⟨r236_z, h237_z, q238_z, hc_z⟩ := hc_z
        obtain ⟨xl, rr, hh, xe⟩ := wi_68 xv235_z (fun z e => lawX_b (L 2 (by decide)) (fun q _ => eC_b q) e) (by decide) q238_z
        replace hh := hh.symm
        subst rr
        subst hh
        rw [z0_z, z99_z] at xe
        have el : xl = ldX 23 h U F (Hd - F) o S := ldX_e (by
          unfold ldZ
          rw [if_pos b224_z.1]
          exact xe)
        replace hc_z : rn _ _ _ _ [.int xl, .int 0, .ref 38] _ _ _ := hc_z
        replace hc_z := rn_i2l (w := xl.toInt64) (am_cur_of (i := (127, 1, .i2l, (0, 0, 0), 0)) (by decide +kernel)) rfl hc_z
        replace hc_z := rn_lastore (N := 6) (q := 0) (am_cur_of (i := (128, 1, .lastore, (0, 0, 0), 0)) (by decide +kernel)) (by decide +kernel) rfl hc_z
        obtain ⟨p239_z, hc_z⟩ := hc_z
        replace hc_z := rn_aload (am_cur_of (i := (129, 2, .aload 4, (0, 0, 0), 0)) (by decide +kernel)) g4_z hc_z
        replace hc_z := rn_getR (x := 38) (am_cur_of (i := (131, 3, .getfield 66, (2, 7, 174), 0)) (by decide +kernel)) (by decide +kernel) hc_z
        replace hc_z := rn_iconst (w := 5) (am_cur_of (i := (134, 1, .iconst 5, (0, 0, 0), 0)) (by decide +kernel)) (by decide) hc_z
        replace hc_z := rn_iload_n (am_cur_of (i := (135, 1, .iload_n 3, (0, 0, 0), 0)) (by decide +kernel)) g3_z hc_z
        replace hc_z := rn_i2l (w := br.toInt64) (am_cur_of (i := (136, 1, .i2l, (0, 0, 0), 0)) (by decide +kernel)) rfl hc_z
        replace hc_z := rn_lastore (N := 6) (q := 5) (am_cur_of (i := (137, 1, .lastore, (0, 0, 0), 0)) (by decide +kernel)) (by decide +kernel) rfl hc_z
        obtain ⟨p240_z, hc_z⟩ := hc_z
        replace hc_z := rn_aload (am_cur_of (i := (138, 2, .aload 4, (0, 0, 0), 0)) (by decide +kernel)) g4_z hc_z
        replace hc_z := rn_iload_n (am_cur_of (i := (140, 1, .iload_n 1, (0, 0, 0), 0)) (by decide +kernel)) g1_z hc_z
        replace hc_z := rn_callV (M' := am_m66) (o := 32) (ar := [.int kd]) (rest := []) (L := lv_args 0 [.ref 32, .int kd]) (am_cur_of (i := (141, 3, .invokevirtual 76, (66, 925, 3), 0)) (by decide +kernel)) rfl rfl rfl rfl hc_z
        obtain ⟨r241_z, h242_z, q243_z, hc_z⟩ := hc_z
        have Lv244 : LW 23 (am_up (am_up h233_z 38 0 (.long xl.toInt64)) 38 5 (.long br.toInt64)) g := LW_e (fun o q a_ b_ => (rg_v_other (by omega)).trans ((rg_v_other (by omega)).trans (rfl))) (fun _ _ _ => rfl) (LW_e (fun o q a_ b_ => lw_v (fv235_z o q (by omega))) (fun _ _ _ => rfl) Lv235)
        have hnv244 : ∀ q, q < 6 → rg_l (am_up (am_up h233_z 38 0 (.long xl.toInt64)) 38 5 (.long br.toInt64)) 38 q = eC xl F (Hd - F) o S br q := by
          intro q hq_z
          match q, hq_z with
          | 0, _ => rfl
          | 1, _ => exact (lw_l (fv235_z 38 1 (by decide))).trans rfl
          | 2, _ => exact (lw_l (fv235_z 38 2 (by decide))).trans rfl
          | 3, _ => exact (lw_l (fv235_z 38 3 (by decide))).trans rfl
          | 4, _ => exact (lw_l (fv235_z 38 4 (by decide))).trans rfl
          | 5, _ => rfl
          | q + 6, hq_z => omega
        obtain ⟨wv244_z, rr, xv244_z, fv244_z⟩ := vw_66_23 (kd := kd) (Lv244 _ hk_z) (fun q hq_z => by rw [hnv244 q hq_z]; exact eC_b q) q243_z
        subst rr
        rw [lawX_N (N := fun q => rg_l (am_up (am_up h233_z 38 0 (.long xl.toInt64)) 38 5 (.long br.toInt64)) 38 q) (N' := eC xl F (Hd - F) o S br) (Lv244 _ hk_z) (Or.inr (congrArg Int64.toInt (hnv244 0 (by decide)))) (fun q _ hq_z => congrArg Int64.toInt (hnv244 q hq_z)), lawX_e (h := h) (h' := (am_up (am_up h233_z 38 0 (.long xl.toInt64)) 38 5 (.long br.toInt64))) (fun o q a_ b_ => (rg_v_other (by omega)).trans ((rg_v_other (by omega)).trans ((lw_v (fv235_z o q (by omega))).trans ((rg_v_other (by omega)).trans ((rg_v_other (by omega)).trans ((rg_v_other (by omega)).trans ((rg_v_other (by omega)).trans ((rg_v_other (by omega)).trans ((rg_v_other (by omega)).trans (rfl))))))))))] at xv244_z
        replace hc_z : rn _ _ _ _ [.long wv244_z] _ _ _ := hc_z
        replace hc_z := rn_lret (am_cur_of (i := (144, 1, .lreturn, (0, 0, 0), 0)) (by decide +kernel)) hc_z
        obtain ⟨e245_z, e246_z⟩ := hc_z
        refine ⟨_, e245_z, fun k2_z => ?_, fun k2_z => ?_, fun o q a_ b_ => by rw [e246_z]; exact ((fv244_z o q b_).trans ((up_ne (fun z => a_ z.1)).trans ((up_ne (fun z => a_ z.1)).trans (((fv235_z o q b_).trans ((up_ne (fun z => a_ z.1)).trans ((up_ne (fun z => a_ z.1)).trans ((up_ne (fun z => a_ z.1)).trans ((up_ne (fun z => a_ z.1)).trans ((up_ne (fun z => a_ z.1)).trans ((up_ne (fun z => a_ z.1)).trans (rfl))))))))))))⟩
        · exact absurd k2_z b207_z.1
        · rw [← el]
          exact xv244_z
