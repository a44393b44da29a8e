/-! ===== WHAT THE SMALL MACHINE'S STATE SAYS OF THE TRUE ONE ===== -/
def am_c (B : Nat) (x : Nat → Nat) : Value → Value
  | .ref i => .ref (B + i)
  | .retAddr k => .ref (x k)
  | v => v
theorem am_c_cat (B : Nat) (x : Nat → Nat) (v : Value) : (am_c B x v).category = v.category := by cases v <;> rfl
def am_i : Value → Int32
  | .int x => x
  | _ => 0
def am_l : Value → Int64
  | .long x => x
  | _ => 0
def am_o (B : Nat) : Value → Option Nat
  | .ref i => some (B + i)
  | _ => none
def am_arr (B n : Nat) (ty : FieldType) (f : Nat → Value) : vp_A := match ty with
  | .long => (n, .inr (.inl (fun j => am_l (f j))))
  | .object _ => (n, .inr (.inr (.inr (.inr (fun j => am_o B (f j))))))
  | _ => (n, .inl (fun j => am_i (f j)))
theorem am_arr_1 (B n : Nat) (ty : FieldType) (f : Nat → Value) : (am_arr B n ty f).1 = n := by cases ty <;> rfl
def am_N (cl : List vw_C) (ci : Nat) : Nat := match cl[ci]? with
  | some r => r.2.2
  | none => 0
def am_E (cl : List vw_C) (B : Nat) (x : Nat → Nat) (ca : ClassId) (k : am_k) (f : Nat → Value) : va_E := match k with
  | .inl ci => .inr (ci, (List.range (am_N cl ci)).map (fun j => am_c B x (f j)))
  | .inr q => .inl (ca, am_arr B q.2 q.1 f)
def am_W (cl : List vw_C) (B : Nat) (x : Nat → Nat) (dA : Nat → ClassId) (ks : List am_k) (h : am_H) : va_W := ks.mapIdx (fun i k => (B + i, am_E cl B x (dA i) k (h i)))
theorem am_W_at {cl : List vw_C} {B : Nat} {x : Nat → Nat} {dA : Nat → ClassId} {ks : List am_k} {h : am_H} (i : Nat) : (am_W cl B x dA ks h)[i]? = (ks[i]?).map (fun k => (B + i, am_E cl B x (dA i) k (h i))) := by
  simp [am_W, List.getElem?_mapIdx]
theorem am_W_some {cl : List vw_C} {B : Nat} {x : Nat → Nat} {dA : Nat → ClassId} {ks : List am_k} {h : am_H} {i : Nat} {k : am_k} (hk : ks[i]? = some k) : (am_W cl B x dA ks h)[i]? = some (B + i, am_E cl B x (dA i) k (h i)) := by
  rw [am_W_at, hk]; rfl
theorem am_W_D {cl : List vw_C} {B : Nat} {x : Nat → Nat} {dA : Nat → ClassId} {ks : List am_k} {h : am_H} : va_D (fun q => B ≤ q) (am_W cl B x dA ks h) := by
  refine ⟨fun i j p q hi hj hpq => ?_, fun i q hi => ?_⟩
  · rw [am_W_at] at hi hj
    obtain ⟨a, -, rfl⟩ := Option.map_eq_some_iff.mp hi
    obtain ⟨b, -, rfl⟩ := Option.map_eq_some_iff.mp hj
    have : B + i = B + j := hpq
    omega
  · rw [am_W_at] at hi
    obtain ⟨a, -, rfl⟩ := Option.map_eq_some_iff.mp hi
    exact Nat.le_add_right B i
theorem am_beq {a b : Nat} : Nat.beq a b = true ↔ a = b := ⟨Nat.eq_of_beq_eq_true, fun h => by subst h; exact Nat.beq_refl a⟩
theorem am_up_self (h : am_H) (o k : Nat) (v : Value) : am_up h o k v o k = v := by simp [am_up]
theorem am_up_same (h : am_H) (o k k' : Nat) (v : Value) (hk : k' ≠ k) : am_up h o k v o k' = h o k' := by
  have : Nat.beq k' k = false := by cases hq : Nat.beq k' k with
    | false => rfl
    | true => exact absurd (Nat.eq_of_beq_eq_true hq) hk
  simp [am_up, this]
theorem am_up_other (h : am_H) (o k o' : Nat) (v : Value) (ho : o' ≠ o) : am_up h o k v o' = h o' := by
  have : Nat.beq o' o = false := by cases hq : Nat.beq o' o with
    | false => rfl
    | true => exact absurd (Nat.eq_of_beq_eq_true hq) ho
  funext k'
  simp [am_up, this]
/-- a field is written -/
theorem am_W_put {cl : List vw_C} {B : Nat} {x : Nat → Nat} {dA : Nat → ClassId} {ks : List am_k} {h : am_H} {o ci k : Nat} {v : Value} (hk : ks[o]? = some (.inl ci)) (hn : k < am_N cl ci) :
    (am_W cl B x dA ks h).set o (B + o, .inr (ci, ((List.range (am_N cl ci)).map (fun j => am_c B x (h o j))).set k (am_c B x v))) = am_W cl B x dA ks (am_up h o k v) := by
  have hlt : o < (am_W cl B x dA ks h).length := (List.getElem?_eq_some_iff.mp (am_W_some (cl := cl) (B := B) (x := x) (dA := dA) (h := h) hk)).1
  refine List.ext_getElem? fun i => ?_
  by_cases hi : i = o
  · subst hi
    rw [List.getElem?_set_self hlt, am_W_some hk]
    show some (B + i, Sum.inr (ci, _)) = some (B + i, Sum.inr (ci, _))
    congr 4
    refine List.ext_getElem? fun j => ?_
    by_cases hj : j = k
    · subst hj
      rw [List.getElem?_set_self (by simpa using hn)]
      simp [hn, am_up_self]
    · rw [List.getElem?_set_ne (Ne.symm hj)]
      simp only [List.getElem?_map]
      by_cases hjn : j < am_N cl ci
      · simp [hjn, am_up_same _ _ _ _ _ hj]
      · simp [hjn]
  · rw [List.getElem?_set_ne (Ne.symm hi), am_W_at, am_W_at, am_up_other _ _ _ _ _ hi]
/-- an array's place is written -/
theorem am_W_ast {cl : List vw_C} {B : Nat} {x : Nat → Nat} {dA : Nat → ClassId} {ks : List am_k} {h : am_H} {o n k : Nat} {ty : FieldType} {v : Value} {a : vp_A} (hk : ks[o]? = some (.inr (ty, n))) (ha : a = am_arr B n ty (am_up h o k v o)) :
    (am_W cl B x dA ks h).set o (B + o, .inl (dA o, a)) = am_W cl B x dA ks (am_up h o k v) := by
  have hlt : o < (am_W cl B x dA ks h).length := (List.getElem?_eq_some_iff.mp (am_W_some (cl := cl) (B := B) (x := x) (dA := dA) (h := h) hk)).1
  refine List.ext_getElem? fun i => ?_
  by_cases hi : i = o
  · subst hi
    rw [List.getElem?_set_self hlt, am_W_some hk, ha]
    rfl
  · rw [List.getElem?_set_ne (Ne.symm hi), am_W_at, am_W_at, am_up_other _ _ _ _ _ hi]
theorem am_mk_self (h : am_H) (o : Nat) (f : Nat → Value) : am_mk h o f o = f := by funext k; simp [am_mk]
theorem am_mk_other (h : am_H) (o o' : Nat) (f : Nat → Value) (ho : o' ≠ o) : am_mk h o f o' = h o' := by
  have : Nat.beq o' o = false := by cases hq : Nat.beq o' o with
    | false => rfl
    | true => exact absurd (Nat.eq_of_beq_eq_true hq) ho
  funext k'
  simp [am_mk, this]
/-- a cell is made -/
theorem am_W_new {cl : List vw_C} {B : Nat} {x : Nat → Nat} {dA : Nat → ClassId} {ks : List am_k} {h : am_H} {k : am_k} {f : Nat → Value} {ca : ClassId} :
    am_W cl B x dA ks h ++ [(B + ks.length, am_E cl B x ca k f)] = am_W cl B x (fun i => if i = ks.length then ca else dA i) (ks ++ [k]) (am_mk h ks.length f) := by
  have hl : (am_W cl B x dA ks h).length = ks.length := by simp [am_W]
  refine List.ext_getElem? fun i => ?_
  rw [am_W_at]
  by_cases hi : i < ks.length
  · rw [List.getElem?_append_left (by omega), List.getElem?_append_left hi, am_W_at, am_mk_other _ _ _ _ (by omega : i ≠ ks.length), if_neg (by omega)]
  · rw [List.getElem?_append_right (by omega), List.getElem?_append_right (by omega), hl]
    by_cases hz : i = ks.length
    · subst hz
      simp [am_mk_self]
    · have : ¬ i - ks.length = 0 := by omega
      have h1 : ([(B + ks.length, am_E cl B x ca k f)] : va_W)[i - ks.length]? = none := by
        rw [List.getElem?_eq_none_iff]; simp; omega
      have h2 : ([k] : List am_k)[i - ks.length]? = none := by
        rw [List.getElem?_eq_none_iff]; simp; omega
      rw [h1, h2]; rfl
/-- the true heap holds the small machine's -/
def am_Wd (D : va_G) (cl : List vw_C) (B : Nat) (x : Nat → Nat) (ex : Bool) (dA : Nat → ClassId) (ks : List am_k) (h : am_H) (n : Nat) (U : State) (H : Heap) : Prop :=
  va_P D cl (am_W cl B x dA ks h) H ∧ (∀ (i : Nat) (ty : FieldType) (k : Nat), ks[i]? = some (.inr (ty, k)) → ArrOfT U (dA i) ty ∧ va_RA U (dA i) ty) ∧ (ex = true → n = B + ks.length)
def am_Rel (D : va_G) (cl : List vw_C) (B : Nat) (x : Nat → Nat) (ex : Bool) (ks : List am_k) (h : am_H) (n : Nat) (U : State) (H : Heap) : Prop :=
  va_K D cl [] U ∧ ∃ dA, am_Wd D cl B x ex dA ks h n U H
theorem am_Rel.moved {D : va_G} {cl : List vw_C} {B : Nat} {x : Nat → Nat} {ex : Bool} {ks : List am_k} {h : am_H} {n : Nat} {u U : State} {H : Heap} (hvm : u.vm.Alike U.vm) (hR : am_Rel D cl B x ex ks h n u H) : am_Rel D cl B x ex ks h n U H := by
  obtain ⟨hK, dA, h1, h2, h3⟩ := hR
  exact ⟨va_K.moved hvm hK, dA, h1, fun i ty k hi => ⟨arrOfT_moved hvm (h2 i ty k hi).1, (h2 i ty k hi).2.moved hvm⟩, h3⟩
theorem am_get_mem {k : Nat} {v : Value} : ∀ {ls : am_L}, am_get ls k = some v → (k, v) ∈ ls
  | [], h => by cases h
  | q :: l, h => by
    unfold am_get at h
    cases hb : Nat.beq q.1 k with
    | true =>
      rw [hb] at h
      cases h
      have := Nat.eq_of_beq_eq_true hb
      subst this
      exact List.mem_cons_self
    | false =>
      rw [hb] at h
      exact List.mem_cons_of_mem _ (am_get_mem h)
/-- the locals as the true machine has them -/
def am_ls (B : Nat) (x : Nat → Nat) (ls : am_L) : am_L := ls.map (fun q => (q.1, am_c B x q.2))
theorem am_ls_get {B : Nat} {x : Nat → Nat} {ls : am_L} {L : Array Slot} {nL k : Nat} {v : Value} (h : lv_has L nL (am_ls B x ls)) (hg : am_get ls k = some v) : L[k]? = some (.val (am_c B x v)) :=
  h.2.2 (k, am_c B x v) (List.mem_map.mpr ⟨(k, v), am_get_mem hg, rfl⟩)
theorem am_ls_set {B : Nat} {x : Nat → Nat} {ls : am_L} {k : Nat} {v : Value} : (k, am_c B x v) :: (am_ls B x ls).filter (fun q => !(q.1 == k) && !(q.1 + 1 == k && q.2.category == 2)) = am_ls B x (am_set ls k v) := by
  unfold am_ls am_set
  rw [List.map_cons, List.filter_map]
  congr 3
  funext q
  simp [am_c_cat]
theorem am_ls_set2 {B : Nat} {x : Nat → Nat} {ls : am_L} {k : Nat} {v : Value} : (k, am_c B x v) :: (am_ls B x ls).filter (fun q => !(q.1 == k) && (!(q.1 == k + 1) && !(q.1 + 1 == k && q.2.category == 2))) = am_ls B x (am_set2 ls k v) := by
  unfold am_ls am_set2
  rw [List.map_cons, List.filter_map]
  congr 3
  funext q
  simp [am_c_cat]
theorem am_cat_map (B : Nat) (x : Nat → Nat) (st : List Value) : ((st.map (am_c B x)).map fun v => v.category).sum = am_cat st := by
  unfold am_cat
  rw [List.map_map]
  congr 2
  funext v
  exact am_c_cat B x v
theorem am_fit_ok {B : Nat} {x : Nat → Nat} {ty : FieldType} {v : Value} (h : am_fit ty v = true) : narrow ty (am_c B x v) = am_c B x v ∧ fits ty (am_c B x v) = true := by
  unfold am_fit at h
  split at h
  · exact ⟨rfl, rfl⟩
  · simp only [Bool.or_eq_true, decide_eq_true_eq] at h
    rcases h with rfl | rfl <;> exact ⟨rfl, rfl⟩
  · exact ⟨rfl, rfl⟩
  · exact ⟨rfl, rfl⟩
  · exact ⟨rfl, rfl⟩
  · cases h
