/-! ===== THE SMALL MACHINE: what a method does, as a function of numbers. A cell is its number (the order of making), a heap a function of cell and place; a reference to cell i is .ref i, to the law's script .retAddr 0, to the words' text .retAddr 1. ===== -/
abbrev am_H : Type := Nat → Nat → Value
/-- a cell's kind: an object of class ci, an array of a type and a length -/
abbrev am_k : Type := Nat ⊕ (FieldType × Nat)
abbrev am_L : Type := List (Nat × Value)
/-- pc, length, instruction, three numbers, a constant -/
abbrev am_I : Type := Nat × Nat × Instr × (Nat × Nat × Nat) × Int
/-- (class number, name, bytes), (maxLocals, return type, parameters), (frames, locals, cells, slots), code -/
abbrev am_M : Type := (Nat × MethodName × ByteArray) × (Nat × Option FieldType × Nat) × (Nat × Nat × Nat × Nat) × List am_I
/-- code from here on, locals, stack, kinds, heap, cells and slots made -/
abbrev am_F : Type := List am_I × am_L × List Value × List am_k × am_H × Nat × Nat
abbrev am_O : Type := Option Value × List am_k × am_H
abbrev am_R : Type := Option (am_F ⊕ am_O)
/-- the program, the field types by class, the class names, the text of the words, the script, the method that catches and what it does -/
abbrev am_G : Type := (Nat → Option am_M) × (Nat → List FieldType) × (Nat → String) × (Nat → Int32) × Option (Nat × (Nat → Int32)) × am_M × (List Value → List am_k → am_H → Option am_O)
def am_up (h : am_H) (o k : Nat) (v : Value) : am_H := fun o' k' => cond (Nat.beq o' o && Nat.beq k' k) v (h o' k')
def am_mk (h : am_H) (o : Nat) (f : Nat → Value) : am_H := fun o' k' => cond (Nat.beq o' o) (f k') (h o' k')
def am_get : am_L → Nat → Option Value
  | [], _ => none
  | q :: l, k => cond (Nat.beq q.1 k) (some q.2) (am_get l k)
def am_set (ls : am_L) (k : Nat) (v : Value) : am_L := (k, v) :: ls.filter (fun q => !(q.1 == k) && !(q.1 + 1 == k && q.2.category == 2))
def am_set2 (ls : am_L) (k : Nat) (v : Value) : am_L := (k, v) :: ls.filter (fun q => !(q.1 == k) && (!(q.1 == k + 1) && !(q.1 + 1 == k && q.2.category == 2)))
/-- goes on at the next instruction -/
def am_nx (i : am_I) (cs : List am_I) (k : am_R) : am_R := match cs with
  | [] => none
  | j :: _ => cond (Nat.beq j.1 (i.1 + i.2.1)) k none
def am_go (i : am_I) (cs : List am_I) (ls : am_L) (st : List Value) (ks : List am_k) (h : am_H) (nc ns : Nat) : am_R := am_nx i cs (some (.inl (cs, ls, st, ks, h, nc, ns)))
/-- goes on at the a-th instruction of the method, whose pc must be t -/
def am_jp (M : am_M) (a : Nat) (t : Int) (ls : am_L) (st : List Value) (ks : List am_k) (h : am_H) (nc ns : Nat) : am_R := match M.2.2.2.drop a with
  | [] => none
  | j :: r => if (j.1 : Int) = t then some (.inl (j :: r, ls, st, ks, h, nc, ns)) else none
def am_seek : List am_I → Int → List am_I
  | [], _ => []
  | j :: r, t => if (j.1 : Int) = t then j :: r else am_seek r t
def am_sw (M : am_M) (t : Int) (ls : am_L) (st : List Value) (ks : List am_k) (h : am_H) (nc ns : Nat) : am_R := match am_seek M.2.2.2 t with
  | [] => none
  | j :: r => some (.inl (j :: r, ls, st, ks, h, nc, ns))
def am_br (M : am_M) (i : am_I) (cs : List am_I) (b : Bool) (off : Int) (ls : am_L) (st : List Value) (ks : List am_k) (h : am_H) (nc ns : Nat) : am_R :=
  cond b (am_jp M i.2.2.2.1.1 (i.1 + off) ls st ks h nc ns) (am_go i cs ls st ks h nc ns)
def am_cmp (c : ClassFile.Cond) (x y : Int32) : Bool := match c with
  | .eq => decide (x = y)
  | .ne => decide (¬ x = y)
  | .lt => decide (x < y)
  | .ge => decide (y ≤ x)
  | .gt => decide (y < x)
  | .le => decide (x ≤ y)
/-- may a field or answer of this type hold this value as it is -/
def am_fit (ty : FieldType) (v : Value) : Bool := match ty, v with
  | .int, .int _ => true
  | .boolean, .int x => decide (x = 0) || decide (x = 1)
  | .long, .long _ => true
  | .object _, .ref _ => true
  | .array _, .ref _ => true
  | _, _ => false
def am_ix (j : Int32) (n : Nat) (k : Nat → am_R) : am_R := if j < 0 ∨ n ≤ j.toNatClampNeg then none else k j.toNatClampNeg
def am_pushI (v : Value) (k : Value → am_R) : am_R := match v with
  | .int x => k (.int x)
  | _ => none
def am_pushL (v : Value) (k : Value → am_R) : am_R := match v with
  | .long x => k (.long x)
  | _ => none
def am_pushR (v : Value) (k : Value → am_R) : am_R := match v with
  | .ref x => k (.ref x)
  | _ => none
def am_cat (st : List Value) : Nat := (st.map fun v => v.category).sum
/-- a method's room -/
def am_rm (M : am_M) : Room := { frames := M.2.2.1.1, cells := M.2.2.1.2.2.1, slots := M.2.2.1.2.2.2, locals := M.2.2.1.2.1 }
abbrev am_rec : Type := Nat → List Value → List am_k → am_H → Option am_O
/-- the room, the stack below and the arguments fit -/
def am_okC (M M' : am_M) (as rest : List Value) (nc ns : Nat) : Bool :=
  Nat.ble (M'.2.2.1.1 + 1) M.2.2.1.1 && Nat.ble (8 + (M'.2.1.1 + 11) + M'.2.2.1.2.1) M.2.2.1.2.1 && Nat.ble (nc + M'.2.2.1.2.2.1) M.2.2.1.2.2.1 && Nat.ble (ns + M'.2.2.1.2.2.2) M.2.2.1.2.2.2
    && Nat.ble (am_cat rest) 8 && Nat.ble (am_cat as) M'.2.1.1
def am_calls (ex : Bool) (M M' : am_M) (a : Nat) (rc : am_rec) (i : am_I) (cs : List am_I) (ls : am_L) (as rest : List Value) (ks : List am_k) (h : am_H) (nc ns : Nat) : am_R :=
  cond (am_okC M M' as rest nc ns) (match rc a as ks h with
    | none => none
    | some (r, ks', h') => cond (!ex || Nat.beq ks'.length (ks.length + M'.2.2.1.2.2.1)) (am_go i cs ls (r.toList ++ rest) ks' h' (nc + M'.2.2.1.2.2.1) (ns + M'.2.2.1.2.2.2)) none) none
/-- a call on an object -/
def am_callV (ex : Bool) (G : am_G) (M : am_M) (rc : am_rec) (i : am_I) (cs : List am_I) (ls : am_L) (st : List Value) (ks : List am_k) (h : am_H) (nc ns : Nat) : am_R :=
  match G.1 i.2.2.2.1.1 with
  | none => none
  | some M' => match st.drop M'.2.1.2.2 with
    | .ref o :: rest => match ks[o]? with
      | some (.inl ci) => cond (Nat.beq ci M'.1.1 && Nat.beq (st.take M'.2.1.2.2).length M'.2.1.2.2) (am_calls ex M M' i.2.2.2.1.1 rc i cs ls (.ref o :: (st.take M'.2.1.2.2).reverse) rest ks h nc ns) none
      | _ => none
    | _ => none
def am_callS (ex : Bool) (G : am_G) (M : am_M) (rc : am_rec) (i : am_I) (cs : List am_I) (ls : am_L) (st : List Value) (ks : List am_k) (h : am_H) (nc ns : Nat) : am_R :=
  match G.1 i.2.2.2.1.1 with
  | none => none
  | some M' => cond (Nat.beq (st.take M'.2.1.2.2).length M'.2.1.2.2) (am_calls ex M M' i.2.2.2.1.1 rc i cs ls (st.take M'.2.1.2.2).reverse (st.drop M'.2.1.2.2) ks h nc ns) none
/-- the call of the method that catches -/
def am_callL (ex : Bool) (G : am_G) (M : am_M) (i : am_I) (cs : List am_I) (ls : am_L) (st : List Value) (ks : List am_k) (h : am_H) (nc ns : Nat) : am_R :=
  cond (Nat.beq (st.take G.2.2.2.2.2.1.2.1.2.2).length G.2.2.2.2.2.1.2.1.2.2) (am_calls ex M G.2.2.2.2.2.1 0 (fun _ as ks h => G.2.2.2.2.2.2 as ks h) i cs ls (st.take G.2.2.2.2.2.1.2.1.2.2).reverse (st.drop G.2.2.2.2.2.1.2.1.2.2) ks h nc ns) none
def am_math (M : am_M) (i : am_I) (cs : List am_I) (ls : am_L) (st : List Value) (ks : List am_k) (h : am_H) (nc ns : Nat) (g : Int32 → Int32 → Int32) : am_R := match st with
  | .int y :: .int x :: rest => cond (Nat.ble 1 M.2.2.1.1 && Nat.ble (am_cat rest + 13) M.2.2.1.2.1 && Nat.ble nc M.2.2.1.2.2.1 && Nat.ble ns M.2.2.1.2.2.2) (am_go i cs ls (.int (g x y) :: rest) ks h nc ns) none
  | _ => none
def am_new (G : am_G) (M : am_M) (ex : Bool) (i : am_I) (cs : List am_I) (ls : am_L) (st : List Value) (ks : List am_k) (h : am_H) (nc ns : Nat) : am_R :=
  cond (ex && Nat.ble (nc + 1) M.2.2.1.2.2.1 && Nat.ble (ns + (G.2.1 i.2.2.2.1.1).length) M.2.2.1.2.2.2)
    (am_go i cs ls (.ref ks.length :: st) (ks ++ [.inl i.2.2.2.1.1]) (am_mk h ks.length (fun j => defaultValue ((G.2.1 i.2.2.2.1.1).getD j .int))) (nc + 1) (ns + (G.2.1 i.2.2.2.1.1).length)) none
def am_newA (M : am_M) (ex : Bool) (ty : FieldType) (i : am_I) (cs : List am_I) (ls : am_L) (st : List Value) (ks : List am_k) (h : am_H) (nc ns : Nat) : am_R := match st with
  | .int n :: rest => if n < 0 then none else cond (ex && Nat.ble (nc + 1) M.2.2.1.2.2.1 && Nat.ble (ns + n.toNatClampNeg) M.2.2.1.2.2.2 && Nat.ble (n.toNatClampNeg * 8) 536870912)
      (am_go i cs ls (.ref ks.length :: rest) (ks ++ [.inr (ty, n.toNatClampNeg)]) (am_mk h ks.length (fun _ => defaultValue ty)) (nc + 1) (ns + n.toNatClampNeg)) none
  | _ => none
def am_ret (M : am_M) (v : Option Value) (ks : List am_k) (h : am_H) (nc ns : Nat) : Option am_O :=
  cond (Nat.ble nc M.2.2.1.2.2.1 && Nat.ble ns M.2.2.1.2.2.2) (some (v, ks, h)) none
/-- the method's end, if the instruction is one -/
def am_end (M : am_M) (f : am_F) : Option am_O := match f with
  | ([], _) => none
  | (i :: _, _, st, ks, h, nc, ns) => match i.2.2.1 with
    | .ireturn => match st with
      | [.int v] => match M.2.1.2.1 with
        | some ty => cond (am_fit ty (.int v)) (am_ret M (some (.int v)) ks h nc ns) none
        | none => none
      | _ => none
    | .lreturn => match st with
      | [.long v] => match M.2.1.2.1 with
        | some .long => am_ret M (some (.long v)) ks h nc ns
        | _ => none
      | _ => none
    | .return_ => match st with
      | [] => match M.2.1.2.1 with
        | none => am_ret M none ks h nc ns
        | _ => none
      | _ => none
    | _ => none
/-- reading an array's place -/
def am_ald (G : am_G) (ks : List am_k) (h : am_H) (a : Value) (j : Int32) (ty : FieldType) (k : Value → am_R) : am_R := match a with
  | .ref o => match ks[o]? with
    | some (.inr (t, n)) => cond (decide (t = ty)) (am_ix j n (fun q => k (h o q))) none
    | _ => none
  | .retAddr 0 => match G.2.2.2.2.1 with
    | some (L, xs) => cond (decide (ty = .int)) (am_ix j L (fun q => k (.int (xs q)))) none
    | none => none
  | _ => none
/-- writing it -/
def am_ast (ks : List am_k) (h : am_H) (a : Value) (j : Int32) (ty : FieldType) (v : Value) (k : am_H → am_R) : am_R := match a with
  | .ref o => match ks[o]? with
    | some (.inr (t, n)) => cond (decide (t = ty)) (am_ix j n (fun q => k (am_up h o q v))) none
    | _ => none
  | _ => none
def am_aald (ks : List am_k) (h : am_H) (o : Nat) (j : Int32) (k : Value → am_R) : am_R := match ks[o]? with
  | some (.inr (.object _, n)) => am_ix j n (fun q => k (h o q))
  | _ => none
def am_aast (G : am_G) (ks : List am_k) (h : am_H) (o : Nat) (j : Int32) (v : Nat) (k : am_H → am_R) : am_R := match ks[o]? with
  | some (.inr (.object C, n)) => match ks[v]? with
    | some (.inl ci) => cond (decide (G.2.2.1 ci = C)) (am_ix j n (fun q => k (am_up h o q (.ref v)))) none
    | _ => none
  | _ => none
def am_len (G : am_G) (ks : List am_k) (a : Value) (k : Value → am_R) : am_R := match a with
  | .ref o => match ks[o]? with
    | some (.inr (_, n)) => k (.int (Int32.ofNat n))
    | _ => none
  | .retAddr 0 => match G.2.2.2.2.1 with
    | some (L, _) => k (.int (Int32.ofNat L))
    | none => none
  | _ => none
/-- a sign of the words' text, which is 120 long -/
def am_text (G : am_G) (M : am_M) (i : am_I) (cs : List am_I) (ls : am_L) (st : List Value) (ks : List am_k) (h : am_H) (nc ns : Nat) (j : Int32) : am_R :=
  cond (Nat.ble 8 M.2.2.1.1 && Nat.ble (am_cat st) 8 && Nat.ble 200 M.2.2.1.2.1 && Nat.ble nc M.2.2.1.2.2.1 && Nat.ble ns M.2.2.1.2.2.2) (am_ix j 120 (fun q => am_go i cs ls (.int (G.2.2.2.1 q) :: st) ks h nc ns)) none
/-- one instruction: the frame behind it, or the method's end -/
def am_one (φ : Value → (Value → am_R) → am_R) (ex : Bool) (G : am_G) (rc : am_rec) (M : am_M) (f : am_F) : am_R := match f with
  | ([], _) => none
  | (i :: cs, ls, st, ks, h, nc, ns) => match i.2.2.1 with
    | .aload k => match am_get ls k with
      | some (.ref x) => am_go i cs ls (.ref x :: st) ks h nc ns
      | some (.retAddr x) => am_go i cs ls (.retAddr x :: st) ks h nc ns
      | _ => none
    | .aload_n k => match am_get ls k.val with
      | some (.ref x) => am_go i cs ls (.ref x :: st) ks h nc ns
      | some (.retAddr x) => am_go i cs ls (.retAddr x :: st) ks h nc ns
      | _ => none
    | .iload k => match am_get ls k with
      | some (.int x) => am_go i cs ls (.int x :: st) ks h nc ns
      | _ => none
    | .iload_n k => match am_get ls k.val with
      | some (.int x) => am_go i cs ls (.int x :: st) ks h nc ns
      | _ => none
    | .lload k => match am_get ls k with
      | some (.long x) => am_go i cs ls (.long x :: st) ks h nc ns
      | _ => none
    | .lload_n k => match am_get ls k.val with
      | some (.long x) => am_go i cs ls (.long x :: st) ks h nc ns
      | _ => none
    | .istore k => match st with
      | .int x :: st => cond (Nat.blt k M.2.1.1) (φ (.int x) (fun v => am_pushI v (fun v => am_go i cs (am_set ls k v) st ks h nc ns))) none
      | _ => none
    | .istore_n k => match st with
      | .int x :: st => cond (Nat.blt k.val M.2.1.1) (φ (.int x) (fun v => am_pushI v (fun v => am_go i cs (am_set ls k.val v) st ks h nc ns))) none
      | _ => none
    | .lstore k => match st with
      | .long x :: st => cond (Nat.blt (k + 1) M.2.1.1) (φ (.long x) (fun v => am_pushL v (fun v => am_go i cs (am_set2 ls k v) st ks h nc ns))) none
      | _ => none
    | .lstore_n k => match st with
      | .long x :: st => cond (Nat.blt (k.val + 1) M.2.1.1) (φ (.long x) (fun v => am_pushL v (fun v => am_go i cs (am_set2 ls k.val v) st ks h nc ns))) none
      | _ => none
    | .astore k => match st with
      | .ref x :: st => cond (Nat.blt k M.2.1.1) (am_go i cs (am_set ls k (.ref x)) st ks h nc ns) none
      | _ => none
    | .astore_n k => match st with
      | .ref x :: st => cond (Nat.blt k.val M.2.1.1) (am_go i cs (am_set ls k.val (.ref x)) st ks h nc ns) none
      | _ => none
    | .iinc k n => match am_get ls k with
      | some (.int x) => cond (Nat.blt k M.2.1.1) (φ (.int (x + Int32.ofInt n)) (fun v => am_pushI v (fun v => am_go i cs (am_set ls k v) st ks h nc ns))) none
      | _ => none
    | .iconst n => am_go i cs ls (.int (Int32.ofInt n) :: st) ks h nc ns
    | .bipush n => am_go i cs ls (.int (Int8.ofInt n).toInt32 :: st) ks h nc ns
    | .sipush n => am_go i cs ls (.int (Int16.ofInt n).toInt32 :: st) ks h nc ns
    | .lconst n => am_go i cs ls (.long (Int64.ofNat (n : Nat)) :: st) ks h nc ns
    | .ldc _ => match i.2.2.2.1.2.1 with
      | 0 => am_go i cs ls (.int (Int32.ofInt i.2.2.2.2) :: st) ks h nc ns
      | _ => am_go i cs ls (.retAddr 1 :: st) ks h nc ns
    | .ldc2_w _ => am_go i cs ls (.long (Int64.ofInt i.2.2.2.2) :: st) ks h nc ns
    | .dup => match st with
      | v :: st => cond (Nat.beq v.category 1) (am_go i cs ls (v :: v :: st) ks h nc ns) none
      | _ => none
    | .dup2 => match st with
      | v :: w :: st => cond (Nat.beq v.category 1 && Nat.beq w.category 1) (am_go i cs ls (v :: w :: v :: w :: st) ks h nc ns) none
      | _ => none
    | .pop => match st with
      | v :: st => cond (Nat.beq v.category 1) (am_go i cs ls st ks h nc ns) none
      | _ => none
    | .pop2 => match st with
      | v :: st => cond (Nat.beq v.category 2) (am_go i cs ls st ks h nc ns) none
      | _ => none
    | .iadd => match st with
      | .int y :: .int x :: st => am_go i cs ls (.int (x + y) :: st) ks h nc ns
      | _ => none
    | .isub => match st with
      | .int y :: .int x :: st => am_go i cs ls (.int (x - y) :: st) ks h nc ns
      | _ => none
    | .imul => match st with
      | .int y :: .int x :: st => am_go i cs ls (.int (x * y) :: st) ks h nc ns
      | _ => none
    | .iand => match st with
      | .int y :: .int x :: st => am_go i cs ls (.int (x &&& y) :: st) ks h nc ns
      | _ => none
    | .ior => match st with
      | .int y :: .int x :: st => am_go i cs ls (.int (x ||| y) :: st) ks h nc ns
      | _ => none
    | .ishl => match st with
      | .int y :: .int x :: st => am_go i cs ls (.int (x <<< (y &&& 31)) :: st) ks h nc ns
      | _ => none
    | .ishr => match st with
      | .int y :: .int x :: st => am_go i cs ls (.int (x >>> (y &&& 31)) :: st) ks h nc ns
      | _ => none
    | .iushr => match st with
      | .int y :: .int x :: st => am_go i cs ls (.int (x.toUInt32 >>> (y.toUInt32 &&& Int32.toUInt32 31)).toInt32 :: st) ks h nc ns
      | _ => none
    | .idiv => match st with
      | .int y :: .int x :: st => if y = 0 then none else am_go i cs ls (.int (x / y) :: st) ks h nc ns
      | _ => none
    | .irem => match st with
      | .int y :: .int x :: st => if y = 0 then none else am_go i cs ls (.int (x - x / y * y) :: st) ks h nc ns
      | _ => none
    | .ladd => match st with
      | .long y :: .long x :: st => am_go i cs ls (.long (x + y) :: st) ks h nc ns
      | _ => none
    | .lsub => match st with
      | .long y :: .long x :: st => am_go i cs ls (.long (x - y) :: st) ks h nc ns
      | _ => none
    | .lmul => match st with
      | .long y :: .long x :: st => am_go i cs ls (.long (x * y) :: st) ks h nc ns
      | _ => none
    | .land => match st with
      | .long y :: .long x :: st => am_go i cs ls (.long (x &&& y) :: st) ks h nc ns
      | _ => none
    | .ldiv => match st with
      | .long y :: .long x :: st => if y = 0 then none else am_go i cs ls (.long (x / y) :: st) ks h nc ns
      | _ => none
    | .lrem => match st with
      | .long y :: .long x :: st => if y = 0 then none else am_go i cs ls (.long (x - x / y * y) :: st) ks h nc ns
      | _ => none
    | .lneg => match st with
      | .long x :: st => am_go i cs ls (.long (-x) :: st) ks h nc ns
      | _ => none
    | .lcmp => match st with
      | .long y :: .long x :: st => am_go i cs ls (.int (lg_cmp x y) :: st) ks h nc ns
      | _ => none
    | .i2l => match st with
      | .int x :: st => am_go i cs ls (.long x.toInt64 :: st) ks h nc ns
      | _ => none
    | .l2i => match st with
      | .long x :: st => am_go i cs ls (.int x.toInt32 :: st) ks h nc ns
      | _ => none
    | .goto off => am_jp M i.2.2.2.1.1 (i.1 + off) ls st ks h nc ns
    | .ifCond c off => match st with
      | .int x :: st => am_br M i cs (am_cmp c x 0) off ls st ks h nc ns
      | _ => none
    | .if_icmp c off => match st with
      | .int y :: .int x :: st => am_br M i cs (am_cmp c x y) off ls st ks h nc ns
      | _ => none
    | .tableswitch dflt lo hi offs => match st with
      | .int x :: st => if x.toInt < lo ∨ hi < x.toInt then am_sw M (i.1 + dflt) ls st ks h nc ns else match offs[(x.toInt - lo).toNat]? with
        | some off => am_sw M (i.1 + off) ls st ks h nc ns
        | none => none
      | _ => none
    | .getfield _ => match st with
      | .ref o :: st => match ks[o]? with
        | some (.inl ci) => cond (Nat.beq ci i.2.2.2.1.1) (am_go i cs ls (h o i.2.2.2.1.2.1 :: st) ks h nc ns) none
        | _ => none
      | _ => none
    | .putfield _ => match st with
      | v :: .ref o :: st => match ks[o]? with
        | some (.inl ci) => cond (Nat.beq ci i.2.2.2.1.1 && am_fit ((G.2.1 i.2.2.2.1.1).getD i.2.2.2.1.2.1 .int) v) (φ v (fun w => am_go i cs ls st ks (am_up h o i.2.2.2.1.2.1 w) nc ns)) none
        | _ => none
      | _ => none
    | .iaload => match st with
      | .int j :: a :: st => am_ald G ks h a j .int (fun v => am_pushI v (fun v => am_go i cs ls (v :: st) ks h nc ns))
      | _ => none
    | .baload => match st with
      | .int j :: .ref o :: st => am_ald G ks h (.ref o) j .boolean (fun v => am_pushI v (fun v => am_go i cs ls (v :: st) ks h nc ns))
      | _ => none
    | .laload => match st with
      | .int j :: .ref o :: st => am_ald G ks h (.ref o) j .long (fun v => am_pushL v (fun v => am_go i cs ls (v :: st) ks h nc ns))
      | _ => none
    | .aaload => match st with
      | .int j :: .ref o :: st => am_aald ks h o j (fun v => am_pushR v (fun v => am_go i cs ls (v :: st) ks h nc ns))
      | _ => none
    | .iastore => match st with
      | .int x :: .int j :: a :: st => φ (.int x) (fun v => am_pushI v (fun v => am_ast ks h a j .int v (fun h => am_go i cs ls st ks h nc ns)))
      | _ => none
    | .bastore => match st with
      | .int x :: .int j :: a :: st => cond (am_fit .boolean (.int x)) (φ (.int x) (fun v => am_pushI v (fun v => am_ast ks h a j .boolean v (fun h => am_go i cs ls st ks h nc ns)))) none
      | _ => none
    | .lastore => match st with
      | .long x :: .int j :: a :: st => φ (.long x) (fun v => am_pushL v (fun v => am_ast ks h a j .long v (fun h => am_go i cs ls st ks h nc ns)))
      | _ => none
    | .aastore => match st with
      | .ref v :: .int j :: .ref o :: st => am_aast G ks h o j v (fun h => am_go i cs ls st ks h nc ns)
      | _ => none
    | .arraylength => match st with
      | a :: st => am_len G ks a (fun v => am_go i cs ls (v :: st) ks h nc ns)
      | _ => none
    | .newarray t => am_newA M ex (Op.newarray.typeOf t) i cs ls st ks h nc ns
    | .anewarray _ => am_newA M ex (.object (G.2.2.1 i.2.2.2.1.1)) i cs ls st ks h nc ns
    | .new _ => am_new G M ex i cs ls st ks h nc ns
    | .invokespecial _ => match i.2.2.2.1.2.2 with
      | 0 => match st with
        | .ref _ :: st => cond (Nat.ble 1 M.2.2.1.1 && Nat.ble (am_cat st + 12) M.2.2.1.2.1) (am_go i cs ls st ks h nc ns) none
        | _ => none
      | _ => am_callV ex G M rc i cs ls st ks h nc ns
    | .invokevirtual _ => match i.2.2.2.1.2.2 with
      | 0 => match st with
        | .int j :: .retAddr 1 :: st => am_text G M i cs ls st ks h nc ns j
        | _ => none
      | _ => am_callV ex G M rc i cs ls st ks h nc ns
    | .invokestatic _ => match i.2.2.2.1.2.2 with
      | 0 => am_callL ex G M i cs ls st ks h nc ns
      | 1 => am_math M i cs ls st ks h nc ns (fun x y => if x < y then y else x)
      | 2 => am_math M i cs ls st ks h nc ns (fun x y => if y < x then y else x)
      | _ => am_callS ex G M rc i cs ls st ks h nc ns
    | _ => none
/-- what a callee sees: no script -/
def am_noS (G : am_G) : am_G := (G.1, G.2.1, G.2.2.1, G.2.2.2.1, none, G.2.2.2.2.2.1, fun _ _ _ => none)
/-- a run: the number says how many instructions it may take, calls and all -/
noncomputable def am_run (φ : Value → (Value → am_R) → am_R) (ex : Bool) (n : Nat) : am_G → am_M → am_F → Option am_O :=
  Nat.rec (motive := fun _ => am_G → am_M → am_F → Option am_O) (fun _ _ _ => none)
    (fun _ ih G M f => match am_end M f with
      | some r => some r
      | none => match am_one φ ex G (fun a as ks h => match G.1 a with
          | none => none
          | some M' => ih (am_noS G) M' (M'.2.2.2, lv_args 0 as, [], ks, h, 0, 0)) M f with
        | some (.inl f') => ih G M f'
        | _ => none) n
