/-! ===== THE READER AS A FUNCTION: bytes, runs of bytes, letters packed ===== -/
def rd_sm (v : Int32) : Bool := !decide (v < 97) && !decide (122 < v)
def rd_dg (v : Int32) : Bool := !decide (v < 48) && !decide (57 < v)
def rd_ws (v : Int32) : Bool := decide (v = 10) || decide (v = 32)
/-- how far such bytes go from p on -/
def rd_run (f : Int32 → Bool) (T : Nat → Int32) (s : Nat) : Nat → Nat → Nat
  | 0, p => p
  | d + 1, p => if p < s ∧ f (T p) = true then rd_run f T s d (p + 1) else p
def rd_end (f : Int32 → Bool) (T : Nat → Int32) (s p : Nat) : Nat := rd_run f T s (s - p) p
theorem rd_end_on {f : Int32 → Bool} {T : Nat → Int32} {s p : Nat} (h1 : p < s) (h2 : f (T p) = true) : rd_end f T s p = rd_end f T s (p + 1) := by
  unfold rd_end
  rw [show s - p = (s - (p + 1)) + 1 by omega]
  show (if p < s ∧ f (T p) = true then rd_run f T s (s - (p + 1)) (p + 1) else p) = _
  rw [if_pos ⟨h1, h2⟩]
theorem rd_end_off {f : Int32 → Bool} {T : Nat → Int32} {s p : Nat} (h : ¬ (p < s ∧ f (T p) = true)) : rd_end f T s p = p := by
  unfold rd_end
  cases hd : s - p with
  | zero => rfl
  | succ d =>
    show (if p < s ∧ f (T p) = true then rd_run f T s d (p + 1) else p) = p
    rw [if_neg h]
theorem rd_run_le {f : Int32 → Bool} {T : Nat → Int32} {s : Nat} : ∀ (d p : Nat), p ≤ rd_run f T s d p ∧ (p ≤ s → rd_run f T s d p ≤ s)
  | 0, p => ⟨Nat.le_refl _, fun h => h⟩
  | d + 1, p => by
    show p ≤ (if p < s ∧ f (T p) = true then rd_run f T s d (p + 1) else p) ∧ (p ≤ s → (if p < s ∧ f (T p) = true then rd_run f T s d (p + 1) else p) ≤ s)
    have ih := rd_run_le (f := f) (T := T) (s := s) d (p + 1)
    by_cases h : p < s ∧ f (T p) = true
    · rw [if_pos h]
      exact ⟨by omega, fun _ => ih.2 (by omega)⟩
    · rw [if_neg h]
      exact ⟨Nat.le_refl _, fun q => q⟩
theorem rd_end_le {f : Int32 → Bool} {T : Nat → Int32} {s p : Nat} (h : p ≤ s) : p ≤ rd_end f T s p ∧ rd_end f T s p ≤ s := ⟨(rd_run_le _ _).1, (rd_run_le _ _).2 h⟩
/-- all bytes of a run are such -/
theorem rd_run_all {f : Int32 → Bool} {T : Nat → Int32} {s : Nat} : ∀ (d p q : Nat), p ≤ q → q < rd_run f T s d p → q < s ∧ f (T q) = true
  | 0, p, q, h1, h2 => absurd h2 (by show ¬ q < p; omega)
  | d + 1, p, q, h1, h2 => by
    have h2 : q < (if p < s ∧ f (T p) = true then rd_run f T s d (p + 1) else p) := h2
    by_cases h : p < s ∧ f (T p) = true
    · rw [if_pos h] at h2
      by_cases e : q = p
      · subst e
        exact h
      · exact rd_run_all d (p + 1) q (by omega) h2
    · rw [if_neg h] at h2
      omega
theorem rd_end_all {f : Int32 → Bool} {T : Nat → Int32} {s p q : Nat} (h1 : p ≤ q) (h2 : q < rd_end f T s p) : q < s ∧ f (T q) = true := rd_run_all _ _ _ h1 h2
theorem rd_run_stop {f : Int32 → Bool} {T : Nat → Int32} {s : Nat} : ∀ (d p : Nat), s - p ≤ d → ¬ (rd_run f T s d p < s ∧ f (T (rd_run f T s d p)) = true)
  | 0, p, hd => fun q => absurd q.1 (by show ¬ p < s; omega)
  | d + 1, p, hd => by
    show ¬ ((if p < s ∧ f (T p) = true then rd_run f T s d (p + 1) else p) < s ∧ f (T (if p < s ∧ f (T p) = true then rd_run f T s d (p + 1) else p)) = true)
    by_cases h : p < s ∧ f (T p) = true
    · rw [if_pos h]
      exact rd_run_stop d (p + 1) (by omega)
    · rw [if_neg h]
      exact h
theorem rd_end_stop {f : Int32 → Bool} {T : Nat → Int32} {s p : Nat} : ¬ (rd_end f T s p < s ∧ f (T (rd_end f T s p)) = true) := rd_run_stop _ _ (Nat.le_refl _)
/-! letters packed: a number by 32 -/
def rd_x (T : Nat → Int32) (e k : Nat) : Int := if k < e then (T k).toInt - 96 else 0
def rd_pk (T : Nat → Int32) (e p : Nat) : Nat → Int
  | 0 => 0
  | j + 1 => 32 * rd_pk T e p j + rd_x T e (p + j)
theorem rd_sm_iff {v : Int32} : rd_sm v = true ↔ 97 ≤ v.toInt ∧ v.toInt ≤ 122 := by
  unfold rd_sm
  simp only [Bool.and_eq_true, Bool.not_eq_true', decide_eq_false_iff_not, Int32.lt_iff_toInt_lt]
  rw [show (97 : Int32).toInt = 97 by decide, show (122 : Int32).toInt = 122 by decide]
  omega
theorem rd_dg_iff {v : Int32} : rd_dg v = true ↔ 48 ≤ v.toInt ∧ v.toInt ≤ 57 := by
  unfold rd_dg
  simp only [Bool.and_eq_true, Bool.not_eq_true', decide_eq_false_iff_not, Int32.lt_iff_toInt_lt]
  rw [show (48 : Int32).toInt = 48 by decide, show (57 : Int32).toInt = 57 by decide]
  omega
/-- digits by 32 are told apart -/
theorem rd_dig {a b x y : Int} (hx : 0 ≤ x ∧ x ≤ 31) (hy : 0 ≤ y ∧ y ≤ 31) (h : 32 * a + x = 32 * b + y) : a = b ∧ x = y := by omega
theorem rd_pk_inj {T T' : Nat → Int32} {e p e' p' : Nat} : ∀ (j : Nat), (∀ k, k < j → 0 ≤ rd_x T e (p + k) ∧ rd_x T e (p + k) ≤ 31) → (∀ k, k < j → 0 ≤ rd_x T' e' (p' + k) ∧ rd_x T' e' (p' + k) ≤ 31) → rd_pk T e p j = rd_pk T' e' p' j → ∀ k, k < j → rd_x T e (p + k) = rd_x T' e' (p' + k)
  | 0, _, _, _, k, hk => absurd hk (Nat.not_lt_zero k)
  | j + 1, h1, h2, h, k, hk => by
    have h : 32 * rd_pk T e p j + rd_x T e (p + j) = 32 * rd_pk T' e' p' j + rd_x T' e' (p' + j) := h
    obtain ⟨q1, q2⟩ := rd_dig (h1 j (by omega)) (h2 j (by omega)) h
    by_cases e9 : k = j
    · rw [e9]
      exact q2
    · exact rd_pk_inj j (fun k hk => h1 k (by omega)) (fun k hk => h2 k (by omega)) q1 k (by omega)
theorem rd_pk_b {T : Nat → Int32} {e p : Nat} : ∀ (j : Nat), (∀ k, k < j → 0 ≤ rd_x T e (p + k) ∧ rd_x T e (p + k) ≤ 31) → 0 ≤ rd_pk T e p j ∧ rd_pk T e p j < 32 ^ j
  | 0, _ => ⟨Int.le_refl _, by show (0 : Int) < 32 ^ 0; decide⟩
  | j + 1, h => by
    obtain ⟨q1, q2⟩ := rd_pk_b j (fun k hk => h k (by omega))
    obtain ⟨q3, q4⟩ := h j (by omega)
    show 0 ≤ 32 * rd_pk T e p j + rd_x T e (p + j) ∧ 32 * rd_pk T e p j + rd_x T e (p + j) < 32 ^ (j + 1)
    rw [Int.pow_succ]
    omega
