/-! ===== WHAT AN INSTRUCTION DOES TO WHAT IS KNOWN ===== -/
abbrev ab_top : ab_V := (0, -2147483648, 2147483647, [])
def ab_i (l u : Int) : ab_V := (0, l, u, [])
/-- an int between, all of them if that is beyond what an int holds -/
def ab_r (l u : Int) : ab_V := cond (decide (-2147483648 ≤ l) && decide (u ≤ 2147483647)) (ab_i l u) ab_top
/-- no tie -/
def ab_n (V : ab_V) : ab_S := (V, 0, (0, 0), 0)
def ab_isLg (V : ab_V) : Bool := Nat.beq V.1 1 || Nat.beq V.1 2 || Nat.beq V.1 3
/-- both -/
def ab_jn (V W : ab_V) : Option ab_V :=
  cond (Nat.beq V.1 0 && Nat.beq W.1 0) (some (0, min V.2.1 W.2.1, max V.2.2.1 W.2.2.1, []))
    (cond (Nat.beq V.1 4 && Nat.beq W.1 4) (some (4, 0, 0, V.2.2.2 ++ W.2.2.2)) (cond (ab_isLg V && ab_isLg W) (some (1, 0, 0, [])) none))
def ab_jns (V : ab_V) : List ab_V → Option ab_V
  | [] => some V
  | W :: r => match ab_jn V W with
    | some X => ab_jns X r
    | none => none
/-- the table of the heap: of an object its fields, of an array one for all -/
abbrev ab_T : Type := List (List ab_V × ab_V)
def ab_hi (T : ab_T) (o k : Nat) : ab_V := match T[o]? with
  | some q => match q.1 with
    | [] => q.2
    | l => l.getD k (9, 0, 0, [])
  | none => (9, 0, 0, [])
def ab_isA (T : ab_T) (o : Nat) : Bool := match T[o]? with
  | some q => q.1.isEmpty
  | none => false
/-- what is known of a place of the heap -/
def ab_hp (T : ab_T) (F : ab_F) (o k : Nat) : ab_V := match ab_find F.2.2 (o + 1, k) with
  | some V => V
  | none => ab_hi T o k
/-- the tie of a value that was just read at a place -/
def ab_rd (V : ab_V) (p : ab_P) : ab_S := match V.1 with
  | 0 => (V, 1, p, 0)
  | _ => (V, 3, p, 0)
def ab_fit (ty : FieldType) (V : ab_V) : Bool := match ty, V.1 with
  | .int, 0 => true
  | .boolean, 0 => decide (0 ≤ V.2.1) && decide (V.2.2.1 ≤ 1)
  | .long, 1 => true
  | .long, 2 => true
  | .long, 3 => true
  | .object _, 4 => true
  | .array _, 4 => true
  | _, _ => false
/-- what an instruction changes: 0 nothing, 1 the local, 2 the place, 3 the local and the next, 4 the places named; by how much -/
abbrev ab_E : Type := Nat × ab_P × Option Int × List (Nat × Nat)
def ab_e0 : ab_E := (0, (0, 0), none, [])
def ab_dl (E : ab_E) (p : ab_P) : Option Int := match E.1 with
  | 0 => some 0
  | 1 => cond (Nat.beq p.1 0 && Nat.beq p.2 E.2.1.2) E.2.2.1 (some 0)
  | 2 => cond (Nat.beq p.1 E.2.1.1 && Nat.beq p.2 E.2.1.2) E.2.2.1 (some 0)
  | 3 => cond (Nat.beq p.1 0 && (Nat.beq p.2 E.2.1.2 || Nat.beq p.2 (E.2.1.2 + 1))) none (some 0)
  | _ => match p.1 with
    | 0 => some 0
    | o + 1 => cond (ab_in E.2.2.2 o p.2) none (some 0)
/-- a local is set: an int or a reference at j, a long at j and j + 1 -/
def ab_isL (j : Nat) (two : Bool) (p : ab_P) : Bool := Nat.beq p.1 0 && (Nat.beq p.2 j || (two && Nat.beq p.2 (j + 1)) || Nat.beq (p.2 + 1) j)
def ab_setL (F : ab_F) (j : Nat) (two : Bool) (V : ab_V) (st : List ab_S) : ab_F :=
  ((j, V) :: F.1.filter (fun q => !(Nat.beq q.1 j || (two && Nat.beq q.1 (j + 1)) || (Nat.beq (q.1 + 1) j && (Nat.beq q.2.1 1 || Nat.beq q.2.1 2 || Nat.beq q.2.1 3)))), ab_cut (ab_isL j two) st, F.2.2.filter (fun q => !Nat.beq q.1.1 0))
/-- by how much the place's number changes, if this value comes there -/
def ab_by (e : ab_S) (p : ab_P) : Option Int := match e.2.1 with
  | 1 => cond (Nat.beq e.2.2.1.1 p.1 && Nat.beq e.2.2.1.2 p.2) (some e.2.2.2) none
  | _ => none
/-- what is known of places of these cells goes -/
def ab_drop (md : List (Nat × Nat)) (F : ab_F) (st : List ab_S) : ab_F :=
  (F.1, ab_cut (fun p => match p.1 with | 0 => false | o + 1 => ab_in md o p.2) st, F.2.2.filter (fun q => match q.1.1 with | 0 => false | o + 1 => !ab_in md o q.1.2))
/-- a write at places of which one is meant: cells os, place k (of all: w) -/
def ab_wr (T : ab_T) (md : List (Nat × Nat)) (F : ab_F) (os : List Nat) (k : Option Nat) (e : ab_S) (st : List ab_S) : Option (ab_F × ab_E) := match k with
  | some k => cond (os.all (fun o => ab_le e.1 (ab_hi T o k) && ab_in md o k)) (match os with
      | [o] => some ((F.1, ab_cut (fun p => Nat.beq p.1 (o + 1) && Nat.beq p.2 k) st, ((o + 1, k), e.1) :: F.2.2.filter (fun q => !(Nat.beq q.1.1 (o + 1) && Nat.beq q.1.2 k))), (2, (o + 1, k), ab_by e (o + 1, k), []))
      | os => some (ab_drop (os.map (fun o => (o, k + 1))) F st, (4, (0, 0), none, os.map (fun o => (o, k + 1))))) none
  | none => cond (os.all (fun o => ab_isA T o && ab_le e.1 (ab_hi T o 0) && md.any (fun q => Nat.beq q.1 o && Nat.beq q.2 0))) (some (ab_drop (os.map (fun o => (o, 0))) F st, (4, (0, 0), none, os.map (fun o => (o, 0))))) none
/-- a read, likewise -/
def ab_ld (T : ab_T) (F : ab_F) (os : List Nat) (k : Option Nat) : Option ab_S := match k with
  | some k => match os with
    | [] => none
    | [o] => some (ab_rd (ab_hp T F o k) (o + 1, k))
    | o :: os => (ab_jns (ab_hi T o k) (os.map (fun o => ab_hi T o k))).map ab_n
  | none => match os with
    | [] => none
    | o :: os => cond ((o :: os).all (ab_isA T)) ((ab_jns (ab_hi T o 0) (os.map (fun o => ab_hi T o 0))).map ab_n) none
/-- all cells are objects of the class -/
def ab_isO (os : List Nat) (ci : Nat) : Bool := os.all (fun o => match am_ks0[o]? with
  | some (.inl c) => Nat.beq c ci
  | _ => false)
/-- all cells are arrays of the type, and the index falls into them -/
def ab_isR (os : List Nat) (ty : FieldType) (V : ab_V) : Bool := decide (0 ≤ V.2.1) && os.all (fun o => match am_ks0[o]? with
  | some (.inr (t, n)) => decide (t = ty) && decide (V.2.2.1 < n)
  | _ => false)
def ab_isRo (os : List Nat) (V : ab_V) : Bool := decide (0 ≤ V.2.1) && os.all (fun o => match am_ks0[o]? with
  | some (.inr (.object _, n)) => decide (V.2.2.1 < n)
  | _ => false)
/-- the one number that it can be -/
def ab_one (V : ab_V) : Option Nat := cond (decide (V.2.1 = V.2.2.1) && decide (0 ≤ V.2.1)) (some V.2.1.toNat) none
/-- the sum with a known number keeps its tie -/
def ab_add (a b : ab_S) : ab_S :=
  cond (decide (-2147483648 ≤ a.1.2.1 + b.1.2.1) && decide (a.1.2.2.1 + b.1.2.2.1 ≤ 2147483647))
    (cond (Nat.beq a.2.1 1 && decide (b.1.2.1 = b.1.2.2.1)) (ab_i (a.1.2.1 + b.1.2.1) (a.1.2.2.1 + b.1.2.2.1), 1, a.2.2.1, a.2.2.2 + b.1.2.1)
      (cond (Nat.beq b.2.1 1 && decide (a.1.2.1 = a.1.2.2.1) && !Nat.beq a.2.1 1) (ab_i (a.1.2.1 + b.1.2.1) (a.1.2.2.1 + b.1.2.2.1), 1, b.2.2.1, b.2.2.2 + a.1.2.1)
        (cond (Nat.beq a.2.1 1 && Nat.beq a.2.2.1.1 0) (ab_i (a.1.2.1 + b.1.2.1) (a.1.2.2.1 + b.1.2.2.1), 4, a.2.2.1, - b.1.2.1 - a.2.2.2) (ab_n (ab_i (a.1.2.1 + b.1.2.1) (a.1.2.2.1 + b.1.2.2.1)))))) (ab_n ab_top)
def ab_sub (a b : ab_S) : ab_S :=
  cond (decide (-2147483648 ≤ a.1.2.1 - b.1.2.2.1) && decide (a.1.2.2.1 - b.1.2.1 ≤ 2147483647))
    (cond (Nat.beq a.2.1 1 && decide (b.1.2.1 = b.1.2.2.1)) (ab_i (a.1.2.1 - b.1.2.2.1) (a.1.2.2.1 - b.1.2.1), 1, a.2.2.1, a.2.2.2 - b.1.2.1) (ab_n (ab_i (a.1.2.1 - b.1.2.2.1) (a.1.2.2.1 - b.1.2.1)))) (ab_n ab_top)
/-- of numbers that aren't below 0 -/
def ab_mul (a b : ab_V) : ab_V := cond (decide (0 ≤ a.2.1) && decide (0 ≤ b.2.1)) (ab_r (a.2.1 * b.2.1) (a.2.2.1 * b.2.2.1)) ab_top
def ab_rem (a b : ab_V) : Option ab_V := cond (decide (1 ≤ b.2.1)) (some (cond (decide (0 ≤ a.2.1)) (ab_i 0 (min a.2.2.1 (b.2.2.1 - 1))) ab_top)) (cond (decide (b.2.2.1 ≤ -1)) (some ab_top) none)
def ab_div (a b : ab_V) : Option ab_V := cond (decide (1 ≤ b.2.1)) (some (cond (decide (0 ≤ a.2.1)) (ab_i 0 a.2.2.1) ab_top)) (cond (decide (b.2.2.1 ≤ -1)) (some ab_top) none)
def ab_is0 (e : ab_S) : Bool := Nat.beq e.1.1 0
def ab_cat1 (e : ab_S) : Bool := Nat.beq e.1.1 0 || Nat.beq e.1.1 4
def ab_cat (e : ab_S) : Nat := cond (ab_isLg e.1) 2 1
def ab_cats (es : List ab_S) : Nat := match es with
  | [] => 0
  | e :: r => ab_cat e + ab_cats r
def ab_in32 (n : Int) : Bool := decide (-2147483648 ≤ n) && decide (n ≤ 2147483647)
/-- two ints are taken, one is laid -/
def ab_two (F : ab_F) (g : ab_S → ab_S → Option ab_S) : Option (ab_F × ab_E) := match F.2.1 with
  | b :: a :: st => cond (ab_is0 a && ab_is0 b) (match g a b with
    | some e => some ((F.1, e :: st, F.2.2), ab_e0)
    | none => none) none
  | _ => none
def ab_twoL (F : ab_F) (g : ab_S → ab_S → Option ab_S) : Option (ab_F × ab_E) := match F.2.1 with
  | b :: a :: st => cond (ab_isLg a.1 && ab_isLg b.1) (match g a b with
    | some e => some ((F.1, e :: st, F.2.2), ab_e0)
    | none => none) none
  | _ => none
def ab_ldL (F : ab_F) (j : Nat) (g : ab_V → Bool) : Option (ab_F × ab_E) := match ab_loc F.1 j with
  | some V => cond (g V) (some ((F.1, ab_rd V (0, j) :: F.2.1, F.2.2), ab_e0)) none
  | none => none
def ab_stL (M : am_M) (F : ab_F) (j : Nat) (two : Bool) (g : ab_V → Bool) : Option (ab_F × ab_E) := match F.2.1 with
  | e :: st => cond (g e.1 && Nat.blt (cond two (j + 1) j) M.2.1.1) (some (ab_setL F j two e.1 st, cond two (3, (0, j), none, []) (1, (0, j), ab_by e (0, j), []))) none
  | _ => none
def ab_aldx (T : ab_T) (F : ab_F) (ty : FieldType) (g : ab_V → Bool) : Option (ab_F × ab_E) := match F.2.1 with
  | j :: a :: st => cond (ab_is0 j && Nat.beq a.1.1 4 && ab_isR a.1.2.2.2 ty j.1) (match ab_ld T F a.1.2.2.2 (ab_one j.1) with
    | some e => cond (g e.1) (some ((F.1, e :: st, F.2.2), ab_e0)) none
    | none => none) none
  | _ => none
def ab_astx (T : ab_T) (md : List (Nat × Nat)) (F : ab_F) (ty : FieldType) : Option (ab_F × ab_E) := match F.2.1 with
  | e :: j :: a :: st => cond (ab_is0 j && Nat.beq a.1.1 4 && ab_isR a.1.2.2.2 ty j.1 && ab_fit ty e.1) (ab_wr T md F a.1.2.2.2 (ab_one j.1) e st) none
  | _ => none
def ab_math (M : am_M) (F : ab_F) (g : Int → Int → Int) : Option (ab_F × ab_E) := match F.2.1 with
  | b :: a :: st => cond (ab_is0 a && ab_is0 b && (Nat.ble 1 M.2.2.1.1 && Nat.ble (ab_cats st + 13) M.2.2.1.2.1)) (some ((F.1, ab_n (ab_i (g a.1.2.1 b.1.2.1) (g a.1.2.2.1 b.1.2.2.1)) :: st, F.2.2), ab_e0)) none
  | _ => none
/-- an instruction that goes on at the next one, and calls nothing -/
def ab_tr1 (T : ab_T) (md : List (Nat × Nat)) (M : am_M) (i : am_I) (F : ab_F) : Option (ab_F × ab_E) := match i.2.2.1 with
  | .aload j => ab_ldL F j (fun V => Nat.beq V.1 4)
  | .aload_n j => ab_ldL F j.val (fun V => Nat.beq V.1 4)
  | .iload j => ab_ldL F j (fun V => Nat.beq V.1 0)
  | .iload_n j => ab_ldL F j.val (fun V => Nat.beq V.1 0)
  | .lload j => ab_ldL F j ab_isLg
  | .lload_n j => ab_ldL F j.val ab_isLg
  | .istore j => ab_stL M F j false (fun V => Nat.beq V.1 0)
  | .istore_n j => ab_stL M F j.val false (fun V => Nat.beq V.1 0)
  | .lstore j => ab_stL M F j true ab_isLg
  | .lstore_n j => ab_stL M F j.val true ab_isLg
  | .astore j => ab_stL M F j false (fun V => Nat.beq V.1 4)
  | .astore_n j => ab_stL M F j.val false (fun V => Nat.beq V.1 4)
  | .iinc j n => match ab_loc F.1 j with
    | some V => cond (Nat.beq V.1 0 && Nat.blt j M.2.1.1 && ab_in32 n) (cond (decide (-2147483648 ≤ V.2.1 + n) && decide (V.2.2.1 + n ≤ 2147483647))
        (some (ab_setL F j false (ab_i (V.2.1 + n) (V.2.2.1 + n)) F.2.1, (1, (0, j), some n, []))) (some (ab_setL F j false ab_top F.2.1, (1, (0, j), none, [])))) none
    | none => none
  | .iconst n => cond (ab_in32 n) (some ((F.1, ab_n (ab_i n n) :: F.2.1, F.2.2), ab_e0)) none
  | .bipush n => cond (decide (-128 ≤ n) && decide (n ≤ 127)) (some ((F.1, ab_n (ab_i n n) :: F.2.1, F.2.2), ab_e0)) none
  | .sipush n => cond (decide (-32768 ≤ n) && decide (n ≤ 32767)) (some ((F.1, ab_n (ab_i n n) :: F.2.1, F.2.2), ab_e0)) none
  | .lconst n => some ((F.1, ab_n (cond (Nat.beq n.val 0) (3, 0, 0, []) (2, 0, 0, [])) :: F.2.1, F.2.2), ab_e0)
  | .ldc _ => match i.2.2.2.1.2.1 with
    | 0 => cond (ab_in32 i.2.2.2.2) (some ((F.1, ab_n (ab_i i.2.2.2.2 i.2.2.2.2) :: F.2.1, F.2.2), ab_e0)) none
    | _ => none
  | .ldc2_w _ => cond (decide (Int64.ofInt i.2.2.2.2 = 0)) (some ((F.1, ab_n (1, 0, 0, []) :: F.2.1, F.2.2), ab_e0)) (some ((F.1, ab_n (2, 0, 0, []) :: F.2.1, F.2.2), ab_e0))
  | .dup => match F.2.1 with
    | e :: st => cond (ab_cat1 e) (some ((F.1, e :: e :: st, F.2.2), ab_e0)) none
    | _ => none
  | .dup2 => match F.2.1 with
    | e :: d :: st => cond (ab_cat1 e && ab_cat1 d) (some ((F.1, e :: d :: e :: d :: st, F.2.2), ab_e0)) none
    | _ => none
  | .pop => match F.2.1 with
    | e :: st => cond (ab_cat1 e) (some ((F.1, st, F.2.2), ab_e0)) none
    | _ => none
  | .iadd => ab_two F (fun a b => some (ab_add a b))
  | .isub => ab_two F (fun a b => some (ab_sub a b))
  | .imul => ab_two F (fun a b => some (ab_n (ab_mul a.1 b.1)))
  | .iand => ab_two F (fun _ _ => some (ab_n ab_top))
  | .ior => ab_two F (fun _ _ => some (ab_n ab_top))
  | .ishl => ab_two F (fun _ _ => some (ab_n ab_top))
  | .ishr => ab_two F (fun _ _ => some (ab_n ab_top))
  | .iushr => ab_two F (fun _ _ => some (ab_n ab_top))
  | .idiv => ab_two F (fun a b => (ab_div a.1 b.1).map ab_n)
  | .irem => ab_two F (fun a b => (ab_rem a.1 b.1).map ab_n)
  | .ladd => ab_twoL F (fun _ _ => some (ab_n (1, 0, 0, [])))
  | .lsub => ab_twoL F (fun _ _ => some (ab_n (1, 0, 0, [])))
  | .lmul => ab_twoL F (fun _ _ => some (ab_n (1, 0, 0, [])))
  | .land => ab_twoL F (fun _ _ => some (ab_n (1, 0, 0, [])))
  | .ldiv => ab_twoL F (fun _ b => cond (Nat.beq b.1.1 2) (some (ab_n (1, 0, 0, []))) none)
  | .lrem => ab_twoL F (fun _ b => cond (Nat.beq b.1.1 2) (some (ab_n (1, 0, 0, []))) none)
  | .lcmp => ab_twoL F (fun a b => some (cond (Nat.beq a.2.1 3 && Nat.beq b.1.1 3) (ab_i (-1) 1, 2, a.2.2.1, 0) (ab_n (ab_i (-1) 1))))
  | .lneg => match F.2.1 with
    | e :: st => cond (ab_isLg e.1) (some ((F.1, ab_n (cond (Nat.beq e.1.1 2) (2, 0, 0, []) (1, 0, 0, [])) :: st, F.2.2), ab_e0)) none
    | _ => none
  | .i2l => match F.2.1 with
    | e :: st => cond (ab_is0 e) (some ((F.1, ab_n (cond (decide (1 ≤ e.1.2.1)) (2, 0, 0, []) (1, 0, 0, [])) :: st, F.2.2), ab_e0)) none
    | _ => none
  | .l2i => match F.2.1 with
    | e :: st => cond (ab_isLg e.1) (some ((F.1, ab_n ab_top :: st, F.2.2), ab_e0)) none
    | _ => none
  | .getfield _ => match F.2.1 with
    | a :: st => cond (Nat.beq a.1.1 4 && ab_isO a.1.2.2.2 i.2.2.2.1.1 && Nat.blt i.2.2.2.1.2.1 (am_tys i.2.2.2.1.1).length) (match ab_ld T F a.1.2.2.2 (some i.2.2.2.1.2.1) with
      | some e => some ((F.1, e :: st, F.2.2), ab_e0)
      | none => none) none
    | _ => none
  | .putfield _ => match F.2.1 with
    | e :: a :: st => cond (Nat.beq a.1.1 4 && ab_isO a.1.2.2.2 i.2.2.2.1.1 && Nat.blt i.2.2.2.1.2.1 (am_tys i.2.2.2.1.1).length && ab_fit ((am_tys i.2.2.2.1.1).getD i.2.2.2.1.2.1 .int) e.1) (ab_wr T md F a.1.2.2.2 (some i.2.2.2.1.2.1) e st) none
    | _ => none
  | .iaload => ab_aldx T F .int (fun V => Nat.beq V.1 0)
  | .baload => ab_aldx T F .boolean (fun V => Nat.beq V.1 0)
  | .laload => ab_aldx T F .long ab_isLg
  | .aaload => match F.2.1 with
    | j :: a :: st => cond (ab_is0 j && Nat.beq a.1.1 4 && ab_isRo a.1.2.2.2 j.1) (match ab_ld T F a.1.2.2.2 (ab_one j.1) with
      | some e => cond (Nat.beq e.1.1 4) (some ((F.1, e :: st, F.2.2), ab_e0)) none
      | none => none) none
    | _ => none
  | .iastore => ab_astx T md F .int
  | .bastore => ab_astx T md F .boolean
  | .lastore => ab_astx T md F .long
  | .arraylength => match F.2.1 with
    | a :: st => match a.1.2.2.2 with
      | [o] => match am_ks0[o]? with
        | some (.inr (_, n)) => cond (Nat.beq a.1.1 4 && decide (n ≤ 100000)) (some ((F.1, ab_n (ab_i n n) :: st, F.2.2), ab_e0)) none
        | _ => none
      | _ => none
    | _ => none
  | .invokestatic _ => match i.2.2.2.1.2.2 with
    | 1 => ab_math M F max
    | 2 => ab_math M F min
    | _ => none
  | _ => none
