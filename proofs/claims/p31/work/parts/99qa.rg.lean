/-! ===== CELLS' CODES, AND THAT A RUN KEEPS THEM (wip/r/genrn.py) ===== -/
/-- 0 an int, 1 a boolean, 2 a long, 3 any reference, n + 4 the reference to n -/
def rg_g (c : Nat) (v : Value) : Prop := match c with
  | 0 => ∃ x : Int32, v = .int x
  | 1 => v = .int 0 ∨ v = .int 1
  | 2 => ∃ x : Int64, v = .long x
  | 3 => ∃ n : Nat, v = .ref n
  | n + 4 => v = .ref n
def rg_T0 : List (List Nat × Nat) := [([5, 0, 3, 3, 48, 52, 56, 60, 1, 64, 146, 152, 157, 162, 163, 165], 0), ([], 0), ([0, 0, 0, 7, 0, 8, 9, 0, 0, 0, 10, 11, 0, 12, 13, 14, 0, 0, 0, 15], 0), ([23, 24, 25, 26], 3), ([], 0), ([], 0), ([], 0), ([], 0), ([], 0), ([], 0), ([], 0), ([0, 0, 16, 17, 18, 19, 20, 21, 22], 0), ([], 0), ([], 0), ([], 0), ([], 0), ([], 1), ([], 2), ([], 2), ([0, 0, 0, 0, 0, 0, 0, 0], 0), ([0, 0, 0, 0, 0, 0, 0, 0], 0), ([0, 0, 0, 0, 0, 0, 0, 0], 0), ([0, 0, 0, 0, 0, 0, 0, 0], 0), ([0, 0, 0, 28, 0, 29, 30, 0, 0, 0, 31, 32, 0, 33, 34, 35, 0, 0, 0, 36], 0), ([44, 45, 46, 47], 3), ([], 0), ([], 0), ([], 0), ([], 0), ([], 0), ([], 0), ([], 0), ([0, 0, 37, 38, 39, 40, 41, 42, 43], 0), ([], 0), ([], 0), ([], 0), ([], 0), ([], 1), ([], 2), ([], 2), ([0, 0, 0, 0, 0, 0, 0, 0], 0), ([0, 0, 0, 0, 0, 0, 0, 0], 0), ([0, 0, 0, 0, 0, 0, 0, 0], 0), ([0, 0, 0, 0, 0, 0, 0, 0], 0), ([0, 0, 0, 49, 3, 0, 3, 0, 0, 0, 0, 0, 51, 0, 0], 0), ([], 0), ([], 0), ([], 0), ([0, 0, 0, 0, 0, 53, 54, 55], 0), ([], 0), ([], 0)]
def rg_T1 : List (List Nat × Nat) := [([], 0), ([0, 0, 0, 0, 0, 57, 58, 59], 0), ([], 0), ([], 0), ([], 0), ([0, 0, 0, 0, 0, 61, 62, 63], 0), ([], 0), ([], 0), ([], 0), ([65, 0, 0], 0), ([66, 70, 74, 78, 82, 86, 90, 94, 98, 102, 106, 110, 114, 118, 122, 126, 130, 134, 138, 142], 3), ([0, 0, 0, 0, 0, 67, 68, 69], 0), ([], 0), ([], 0), ([], 0), ([0, 0, 0, 0, 0, 71, 72, 73], 0), ([], 0), ([], 0), ([], 0), ([0, 0, 0, 0, 0, 75, 76, 77], 0), ([], 0), ([], 0), ([], 0), ([0, 0, 0, 0, 0, 79, 80, 81], 0), ([], 0), ([], 0), ([], 0), ([0, 0, 0, 0, 0, 83, 84, 85], 0), ([], 0), ([], 0), ([], 0), ([0, 0, 0, 0, 0, 87, 88, 89], 0), ([], 0), ([], 0), ([], 0), ([0, 0, 0, 0, 0, 91, 92, 93], 0), ([], 0), ([], 0), ([], 0), ([0, 0, 0, 0, 0, 95, 96, 97], 0), ([], 0), ([], 0), ([], 0), ([0, 0, 0, 0, 0, 99, 100, 101], 0), ([], 0), ([], 0), ([], 0), ([0, 0, 0, 0, 0, 103, 104, 105], 0), ([], 0), ([], 0), ([], 0)]
def rg_T2 : List (List Nat × Nat) := [([0, 0, 0, 0, 0, 107, 108, 109], 0), ([], 0), ([], 0), ([], 0), ([0, 0, 0, 0, 0, 111, 112, 113], 0), ([], 0), ([], 0), ([], 0), ([0, 0, 0, 0, 0, 115, 116, 117], 0), ([], 0), ([], 0), ([], 0), ([0, 0, 0, 0, 0, 119, 120, 121], 0), ([], 0), ([], 0), ([], 0), ([0, 0, 0, 0, 0, 123, 124, 125], 0), ([], 0), ([], 0), ([], 0), ([0, 0, 0, 0, 0, 127, 128, 129], 0), ([], 0), ([], 0), ([], 0), ([0, 0, 0, 0, 0, 131, 132, 133], 0), ([], 0), ([], 0), ([], 0), ([0, 0, 0, 0, 0, 135, 136, 137], 0), ([], 0), ([], 0), ([], 0), ([0, 0, 0, 0, 0, 139, 140, 141], 0), ([], 0), ([], 0), ([], 0), ([0, 0, 0, 0, 0, 143, 144, 145], 0), ([], 0), ([], 0), ([], 0), ([0, 0, 147, 148, 149, 150, 151], 0), ([], 0), ([], 0), ([], 0), ([], 0), ([], 1), ([3, 153, 0, 1, 1, 0, 0], 0), ([0, 0, 0, 0, 0, 154, 155, 156], 0), ([], 0), ([], 0), ([], 0)]
def rg_T3 : List (List Nat × Nat) := [([3, 158, 0, 1, 1, 0, 0], 0), ([0, 0, 0, 0, 0, 159, 160, 161], 0), ([], 0), ([], 0), ([], 0), ([152, 0, 0], 0), ([152, 157, 164, 1], 0), ([], 0), ([0, 0, 166, 167], 0), ([], 2), ([], 0), ([169, 0, 0, 170, 0, 0, 0, 0, 0, 0, 0, 0, 0, 0, 0, 0, 0, 0, 0, 0, 0, 0, 171, 172, 173, 174, 175, 176, 177, 178, 179, 180, 181, 182, 183, 184, 185, 186, 187, 188, 189, 0, 0, 0, 0, 1, 1, 190, 191, 1, 192, 193, 194, 195, 196, 197, 198, 0, 0, 2, 1, 1, 0, 0, 0, 0, 0, 0, 199, 0, 0, 200, 201, 0, 0, 202, 203, 0, 204, 1, 205], 0), ([], 0), ([], 0), ([], 1), ([], 0), ([], 0), ([], 0), ([], 0), ([], 0), ([], 0), ([], 0), ([], 0), ([], 0), ([], 0), ([], 1), ([], 0), ([], 0), ([], 0), ([], 0), ([], 0), ([], 0), ([], 0), ([], 2), ([], 2), ([], 0), ([], 0), ([], 0), ([], 0), ([], 0), ([], 0), ([], 0), ([], 0), ([], 2), ([], 0), ([], 0), ([], 1), ([], 0), ([], 0), ([], 2)]
def rg_T : List (List Nat × Nat) := rg_T0 ++ (rg_T1 ++ (rg_T2 ++ (rg_T3)))
def rg_c (o k : Nat) : Nat := match rg_T[o]? with
  | some q => (match q.1[k]? with
    | some c => c
    | none => q.2)
  | none => 0
/-- by class and field: 9 for a field that is written in constructors alone -/
def rg_cl (ci f : Nat) : Nat := (([[9, 0, 3, 3, 9, 9, 9, 9, 1, 9, 9, 9, 9, 9, 9, 9], [0, 0, 0, 9, 0, 9, 9, 0, 0, 0, 9, 9, 0, 9, 9, 9, 0, 0, 0, 9], [0, 0, 9, 9, 9, 9, 9, 9, 9], [0, 0, 0, 0, 0, 0, 0, 0], [0, 0, 0, 9, 3, 0, 3, 0, 0, 0, 0, 0, 9, 0, 0], [0, 0, 0, 0, 0, 9, 9, 9], [9, 0, 0], [0, 0, 9, 9, 9, 9, 9], [3, 9, 0, 1, 1, 0, 0], [9, 0, 0], [9, 9, 9, 1], [0, 0, 9, 9], [9, 0, 0, 9, 0, 0, 0, 0, 0, 0, 0, 0, 0, 0, 0, 0, 0, 0, 0, 0, 0, 0, 9, 9, 9, 9, 9, 9, 9, 9, 9, 9, 9, 9, 9, 9, 9, 9, 9, 9, 9, 0, 0, 0, 0, 1, 1, 9, 9, 1, 9, 9, 9, 9, 9, 9, 9, 0, 0, 2, 1, 1, 0, 0, 0, 0, 0, 0, 9, 0, 0, 9, 9, 0, 0, 9, 9, 0, 9, 1, 9]] : List (List Nat)).getD ci []).getD f 9
def rg_Gd (h : am_H) : Prop := ∀ (o k : Nat) (kd : am_k), am_ks0[o]? = some kd → k < ab_sz kd → rg_g (rg_c o k) (h o k)
def rg_ty (ty : FieldType) (c : Nat) : Bool := match ty with
  | .int => Nat.beq c 0
  | .boolean => Nat.beq c 1
  | .long => Nat.beq c 2
  | _ => Nat.beq c 3
def rg_arB (ty : FieldType) (o n : Nat) : Bool := match ty with
  | .object _ => true
  | _ => (List.range n).all (fun k => rg_ty ty (rg_c o k))
/-- a field that may be written: its code stands in every object -/
def rg_clB (o : Nat) : Bool := match am_ks0[o]? with
  | some (.inl ci) => (List.range (am_tys ci).length).all (fun f => Nat.beq (rg_cl ci f) 9 || (Nat.beq (rg_c o f) (rg_cl ci f) && rg_ty ((am_tys ci).getD f .int) (rg_cl ci f)))
  | some (.inr (ty, n)) => rg_arB ty o n
  | none => true
theorem rg_clB_0 : ((List.range 102)).all rg_clB = true := by decide +kernel
theorem rg_clB_1 : ((List.range 203).drop 102).all rg_clB = true := by decide +kernel
theorem rg_len : am_ks0.length = 203 := by decide +kernel
theorem rg_clB_ok {o : Nat} {kd : am_k} (hk : am_ks0[o]? = some kd) : rg_clB o = true := by
  have hl : o < am_ks0.length := (List.getElem?_eq_some_iff.mp hk).1
  rw [rg_len] at hl
  have hm : o ∈ (List.range 102) ++ ((List.range 203).drop 102) := by
    have e : (List.range 102) ++ ((List.range 203).drop 102) = List.range 203 := by decide +kernel
    rw [e]
    exact List.mem_range.mpr hl
  rcases List.mem_append.mp hm with h | h
  · exact List.all_eq_true.mp rg_clB_0 o h
  · exact List.all_eq_true.mp rg_clB_1 o h
theorem rg_fit {ty : FieldType} {c : Nat} {v : Value} (hc : rg_ty ty c = true) (hf : am_fit ty v = true) : rg_g c v := by
  unfold am_fit at hf
  split at hf
  · rename_i x
    have : c = 0 := Nat.eq_of_beq_eq_true hc
    subst this
    exact ⟨x, rfl⟩
  · rename_i x
    have : c = 1 := Nat.eq_of_beq_eq_true hc
    subst this
    rw [Bool.or_eq_true, decide_eq_true_eq, decide_eq_true_eq] at hf
    rcases hf with h | h
    · exact Or.inl (by rw [h])
    · exact Or.inr (by rw [h])
  · rename_i x
    have : c = 2 := Nat.eq_of_beq_eq_true hc
    subst this
    exact ⟨x, rfl⟩
  · rename_i x
    have : c = 3 := Nat.eq_of_beq_eq_true hc
    subst this
    exact ⟨_, rfl⟩
  · rename_i x
    have : c = 3 := Nat.eq_of_beq_eq_true hc
    subst this
    exact ⟨_, rfl⟩
  · cases hf
theorem rg_up {h : am_H} {o k : Nat} {v : Value} (hG : rg_Gd h) (hv : rg_g (rg_c o k) v) : rg_Gd (am_up h o k v) := by
  intro o' k' kd hk hz
  unfold am_up
  cases hb : (Nat.beq o' o && Nat.beq k' k) with
  | false => exact hG o' k' kd hk hz
  | true =>
    rw [Bool.and_eq_true] at hb
    have e1 := Nat.eq_of_beq_eq_true hb.1
    have e2 := Nat.eq_of_beq_eq_true hb.2
    subst e1; subst e2
    exact hv
theorem rg_up_f {h : am_H} {o ci f : Nat} {v : Value} (hG : rg_Gd h) (hk : am_ks0[o]? = some (.inl ci)) (hc : Nat.beq (rg_cl ci f) 9 = false) (hf : am_fit ((am_tys ci).getD f .int) v = true) : rg_Gd (am_up h o f v) := by
  have hb := rg_clB_ok hk
  unfold rg_clB at hb
  rw [hk] at hb
  by_cases hl : f < (am_tys ci).length
  · have := List.all_eq_true.mp hb f (List.mem_range.mpr hl)
    rw [Bool.or_eq_true, hc, Bool.and_eq_true] at this
    rcases this with h | h
    · cases h
    · have e := Nat.eq_of_beq_eq_true h.1
      exact rg_up hG (by rw [e]; exact rg_fit h.2 hf)
  · intro o' k' kd hk' hz
    unfold am_up
    cases hb : (Nat.beq o' o && Nat.beq k' f) with
    | false => exact hG o' k' kd hk' hz
    | true =>
      rw [Bool.and_eq_true] at hb
      have e1 := Nat.eq_of_beq_eq_true hb.1
      have e2 := Nat.eq_of_beq_eq_true hb.2
      subst e1; subst e2
      rw [hk] at hk'
      cases hk'
      exact absurd hz hl
theorem rg_ob {ty : FieldType} (h : ∀ s, ty ≠ .object s) {n o : Nat} (hb : rg_arB ty o n = true) : (List.range n).all (fun k => rg_ty ty (rg_c o k)) = true := by
  unfold rg_arB at hb
  cases ty
  case object s => exact absurd rfl (h s)
  all_goals exact hb
theorem rg_up_a {h : am_H} {o q n : Nat} {ty : FieldType} {v : Value} (hG : rg_Gd h) (hk : am_ks0[o]? = some (.inr (ty, n))) (ht : ∀ s, ty ≠ .object s) (hq : q < n) (hf : am_fit ty v = true) : rg_Gd (am_up h o q v) := by
  have hb := rg_clB_ok hk
  unfold rg_clB at hb
  rw [hk] at hb
  have hb' := rg_ob ht hb
  exact rg_up hG (rg_fit (List.all_eq_true.mp hb' q (List.mem_range.mpr hq)) hf)
