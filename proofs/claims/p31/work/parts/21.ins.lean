/-! ===== BIG STEPS, an instruction each (written by wip/p1/mkins.py) ===== -/
section AME
variable {G : am_G} {M : am_M} {k pc len : Nat} {an : Nat × Nat × Nat} {z : Int} {ls : am_L} {st : List Value} {ks : List am_k} {h : am_H} {nc ns : Nat} {Q : Option Value → List am_k → am_H → Prop}
theorem am_e_aload {j : Nat} {v : Nat} (hn : am_nxt M k (pc, len, .aload j, an, z)) (hg : am_get ls j = some (.ref v)) (K : am_Ek false G M (k + 1) ls (.ref v :: st) ks h nc ns Q) : am_Ek false G M k ls st ks h nc ns Q := am_e_of hn (fun _ => rfl) (fun _ => by simp only [am_one, hg]) K
theorem am_e_aload_n {j : Fin 4} {v : Nat} (hn : am_nxt M k (pc, len, .aload_n j, an, z)) (hg : am_get ls j.val = some (.ref v)) (K : am_Ek false G M (k + 1) ls (.ref v :: st) ks h nc ns Q) : am_Ek false G M k ls st ks h nc ns Q := am_e_of hn (fun _ => rfl) (fun _ => by simp only [am_one, hg]) K
theorem am_e_iload {j : Nat} {v : Int32} (hn : am_nxt M k (pc, len, .iload j, an, z)) (hg : am_get ls j = some (.int v)) (K : am_Ek false G M (k + 1) ls (.int v :: st) ks h nc ns Q) : am_Ek false G M k ls st ks h nc ns Q := am_e_of hn (fun _ => rfl) (fun _ => by simp only [am_one, hg]) K
theorem am_e_iload_n {j : Fin 4} {v : Int32} (hn : am_nxt M k (pc, len, .iload_n j, an, z)) (hg : am_get ls j.val = some (.int v)) (K : am_Ek false G M (k + 1) ls (.int v :: st) ks h nc ns Q) : am_Ek false G M k ls st ks h nc ns Q := am_e_of hn (fun _ => rfl) (fun _ => by simp only [am_one, hg]) K
theorem am_e_lload {j : Nat} {v : Int64} (hn : am_nxt M k (pc, len, .lload j, an, z)) (hg : am_get ls j = some (.long v)) (K : am_Ek false G M (k + 1) ls (.long v :: st) ks h nc ns Q) : am_Ek false G M k ls st ks h nc ns Q := am_e_of hn (fun _ => rfl) (fun _ => by simp only [am_one, hg]) K
theorem am_e_lload_n {j : Fin 4} {v : Int64} (hn : am_nxt M k (pc, len, .lload_n j, an, z)) (hg : am_get ls j.val = some (.long v)) (K : am_Ek false G M (k + 1) ls (.long v :: st) ks h nc ns Q) : am_Ek false G M k ls st ks h nc ns Q := am_e_of hn (fun _ => rfl) (fun _ => by simp only [am_one, hg]) K
theorem am_e_sload_n {j : Fin 4} {v : Nat} (hn : am_nxt M k (pc, len, .aload_n j, an, z)) (hg : am_get ls j.val = some (.retAddr v)) (K : am_Ek false G M (k + 1) ls (.retAddr v :: st) ks h nc ns Q) : am_Ek false G M k ls st ks h nc ns Q := am_e_of hn (fun _ => rfl) (fun _ => by simp only [am_one, hg]) K
theorem am_e_istore {j : Nat} {v : Int32} {ls' : am_L} (hn : am_nxt M k (pc, len, .istore j, an, z)) (hb : Nat.blt j M.2.1.1 = true) (hs : am_set ls j (.int v) = ls') (K : am_Ek false G M (k + 1) ls' st ks h nc ns Q) : am_Ek false G M k ls (.int v :: st) ks h nc ns Q := am_e_of hn (fun _ => rfl) (fun _ => by simp only [am_one, hb, cond_true, am_φ, am_pushI, am_pushL, hs]) K
theorem am_e_istore_n {j : Fin 4} {v : Int32} {ls' : am_L} (hn : am_nxt M k (pc, len, .istore_n j, an, z)) (hb : Nat.blt j.val M.2.1.1 = true) (hs : am_set ls j.val (.int v) = ls') (K : am_Ek false G M (k + 1) ls' st ks h nc ns Q) : am_Ek false G M k ls (.int v :: st) ks h nc ns Q := am_e_of hn (fun _ => rfl) (fun _ => by simp only [am_one, hb, cond_true, am_φ, am_pushI, am_pushL, hs]) K
theorem am_e_lstore {j : Nat} {v : Int64} {ls' : am_L} (hn : am_nxt M k (pc, len, .lstore j, an, z)) (hb : Nat.blt (j + 1) M.2.1.1 = true) (hs : am_set2 ls j (.long v) = ls') (K : am_Ek false G M (k + 1) ls' st ks h nc ns Q) : am_Ek false G M k ls (.long v :: st) ks h nc ns Q := am_e_of hn (fun _ => rfl) (fun _ => by simp only [am_one, hb, cond_true, am_φ, am_pushI, am_pushL, hs]) K
theorem am_e_lstore_n {j : Fin 4} {v : Int64} {ls' : am_L} (hn : am_nxt M k (pc, len, .lstore_n j, an, z)) (hb : Nat.blt (j.val + 1) M.2.1.1 = true) (hs : am_set2 ls j.val (.long v) = ls') (K : am_Ek false G M (k + 1) ls' st ks h nc ns Q) : am_Ek false G M k ls (.long v :: st) ks h nc ns Q := am_e_of hn (fun _ => rfl) (fun _ => by simp only [am_one, hb, cond_true, am_φ, am_pushI, am_pushL, hs]) K
theorem am_e_astore {j : Nat} {v : Nat} {ls' : am_L} (hn : am_nxt M k (pc, len, .astore j, an, z)) (hb : Nat.blt j M.2.1.1 = true) (hs : am_set ls j (.ref v) = ls') (K : am_Ek false G M (k + 1) ls' st ks h nc ns Q) : am_Ek false G M k ls (.ref v :: st) ks h nc ns Q := am_e_of hn (fun _ => rfl) (fun _ => by simp only [am_one, hb, cond_true, am_φ, am_pushI, am_pushL, hs]) K
theorem am_e_astore_n {j : Fin 4} {v : Nat} {ls' : am_L} (hn : am_nxt M k (pc, len, .astore_n j, an, z)) (hb : Nat.blt j.val M.2.1.1 = true) (hs : am_set ls j.val (.ref v) = ls') (K : am_Ek false G M (k + 1) ls' st ks h nc ns Q) : am_Ek false G M k ls (.ref v :: st) ks h nc ns Q := am_e_of hn (fun _ => rfl) (fun _ => by simp only [am_one, hb, cond_true, am_φ, am_pushI, am_pushL, hs]) K
theorem am_e_iinc {j : Nat} {n : Int} {v w : Int32} {ls' : am_L} (hn : am_nxt M k (pc, len, .iinc j n, an, z)) (hg : am_get ls j = some (.int v)) (hb : Nat.blt j M.2.1.1 = true) (hw : v + Int32.ofInt n = w) (hs : am_set ls j (.int w) = ls') (K : am_Ek false G M (k + 1) ls' st ks h nc ns Q) : am_Ek false G M k ls st ks h nc ns Q := am_e_of hn (fun _ => rfl) (fun _ => by simp only [am_one, hg, hb, cond_true, am_φ, am_pushI, hw, hs]) K
theorem am_e_iconst {n : Int} {w : Int32} (hn : am_nxt M k (pc, len, .iconst n, an, z)) (hw : Int32.ofInt n = w) (K : am_Ek false G M (k + 1) ls (.int w :: st) ks h nc ns Q) : am_Ek false G M k ls st ks h nc ns Q := am_e_of hn (fun _ => rfl) (fun _ => by simp only [am_one, hw]) K
theorem am_e_bipush {n : Int} {w : Int32} (hn : am_nxt M k (pc, len, .bipush n, an, z)) (hw : (Int8.ofInt n).toInt32 = w) (K : am_Ek false G M (k + 1) ls (.int w :: st) ks h nc ns Q) : am_Ek false G M k ls st ks h nc ns Q := am_e_of hn (fun _ => rfl) (fun _ => by simp only [am_one, hw]) K
theorem am_e_sipush {n : Int} {w : Int32} (hn : am_nxt M k (pc, len, .sipush n, an, z)) (hw : (Int16.ofInt n).toInt32 = w) (K : am_Ek false G M (k + 1) ls (.int w :: st) ks h nc ns Q) : am_Ek false G M k ls st ks h nc ns Q := am_e_of hn (fun _ => rfl) (fun _ => by simp only [am_one, hw]) K
theorem am_e_lconst {n : Fin 2} {w : Int64} (hn : am_nxt M k (pc, len, .lconst n, an, z)) (hw : Int64.ofNat (n : Nat) = w) (K : am_Ek false G M (k + 1) ls (.long w :: st) ks h nc ns Q) : am_Ek false G M k ls st ks h nc ns Q := am_e_of hn (fun _ => rfl) (fun _ => by simp only [am_one, hw]) K
theorem am_e_ldc {j a c : Nat} {w : Int32} (hn : am_nxt M k (pc, len, .ldc j, (a, 0, c), z)) (hw : Int32.ofInt z = w) (K : am_Ek false G M (k + 1) ls (.int w :: st) ks h nc ns Q) : am_Ek false G M k ls st ks h nc ns Q := am_e_of hn (fun _ => rfl) (fun _ => by simp only [am_one, hw]) K
theorem am_e_ldc2 {j : Nat} {w : Int64} (hn : am_nxt M k (pc, len, .ldc2_w j, an, z)) (hw : Int64.ofInt z = w) (K : am_Ek false G M (k + 1) ls (.long w :: st) ks h nc ns Q) : am_Ek false G M k ls st ks h nc ns Q := am_e_of hn (fun _ => rfl) (fun _ => by simp only [am_one, hw]) K
theorem am_e_dup {v : Value} (hn : am_nxt M k (pc, len, .dup, an, z)) (hv : Nat.beq v.category 1 = true) (K : am_Ek false G M (k + 1) ls (v :: v :: st) ks h nc ns Q) : am_Ek false G M k ls (v :: st) ks h nc ns Q := am_e_of hn (fun _ => rfl) (fun _ => by simp only [am_one, hv, cond_true]) K
theorem am_e_dup2 {v w : Value} (hn : am_nxt M k (pc, len, .dup2, an, z)) (hv : (Nat.beq v.category 1 && Nat.beq w.category 1) = true) (K : am_Ek false G M (k + 1) ls (v :: w :: v :: w :: st) ks h nc ns Q) : am_Ek false G M k ls (v :: w :: st) ks h nc ns Q := am_e_of hn (fun _ => rfl) (fun _ => by simp only [am_one, hv, cond_true]) K
theorem am_e_pop {v : Value} (hn : am_nxt M k (pc, len, .pop, an, z)) (hv : Nat.beq v.category 1 = true) (K : am_Ek false G M (k + 1) ls st ks h nc ns Q) : am_Ek false G M k ls (v :: st) ks h nc ns Q := am_e_of hn (fun _ => rfl) (fun _ => by simp only [am_one, hv, cond_true]) K
theorem am_e_iadd {x y w : Int32} (hn : am_nxt M k (pc, len, .iadd, an, z)) (hw : x + y = w) (K : am_Ek false G M (k + 1) ls (.int w :: st) ks h nc ns Q) : am_Ek false G M k ls (.int y :: .int x :: st) ks h nc ns Q := am_e_of hn (fun _ => rfl) (fun _ => by simp only [am_one, hw]) K
theorem am_e_isub {x y w : Int32} (hn : am_nxt M k (pc, len, .isub, an, z)) (hw : x - y = w) (K : am_Ek false G M (k + 1) ls (.int w :: st) ks h nc ns Q) : am_Ek false G M k ls (.int y :: .int x :: st) ks h nc ns Q := am_e_of hn (fun _ => rfl) (fun _ => by simp only [am_one, hw]) K
theorem am_e_imul {x y w : Int32} (hn : am_nxt M k (pc, len, .imul, an, z)) (hw : x * y = w) (K : am_Ek false G M (k + 1) ls (.int w :: st) ks h nc ns Q) : am_Ek false G M k ls (.int y :: .int x :: st) ks h nc ns Q := am_e_of hn (fun _ => rfl) (fun _ => by simp only [am_one, hw]) K
theorem am_e_iand {x y w : Int32} (hn : am_nxt M k (pc, len, .iand, an, z)) (hw : x &&& y = w) (K : am_Ek false G M (k + 1) ls (.int w :: st) ks h nc ns Q) : am_Ek false G M k ls (.int y :: .int x :: st) ks h nc ns Q := am_e_of hn (fun _ => rfl) (fun _ => by simp only [am_one, hw]) K
theorem am_e_ior {x y w : Int32} (hn : am_nxt M k (pc, len, .ior, an, z)) (hw : x ||| y = w) (K : am_Ek false G M (k + 1) ls (.int w :: st) ks h nc ns Q) : am_Ek false G M k ls (.int y :: .int x :: st) ks h nc ns Q := am_e_of hn (fun _ => rfl) (fun _ => by simp only [am_one, hw]) K
theorem am_e_ishl {x y w : Int32} (hn : am_nxt M k (pc, len, .ishl, an, z)) (hw : x <<< (y &&& 31) = w) (K : am_Ek false G M (k + 1) ls (.int w :: st) ks h nc ns Q) : am_Ek false G M k ls (.int y :: .int x :: st) ks h nc ns Q := am_e_of hn (fun _ => rfl) (fun _ => by simp only [am_one, hw]) K
theorem am_e_ishr {x y w : Int32} (hn : am_nxt M k (pc, len, .ishr, an, z)) (hw : x >>> (y &&& 31) = w) (K : am_Ek false G M (k + 1) ls (.int w :: st) ks h nc ns Q) : am_Ek false G M k ls (.int y :: .int x :: st) ks h nc ns Q := am_e_of hn (fun _ => rfl) (fun _ => by simp only [am_one, hw]) K
theorem am_e_iushr {x y w : Int32} (hn : am_nxt M k (pc, len, .iushr, an, z)) (hw : (x.toUInt32 >>> (y.toUInt32 &&& Int32.toUInt32 31)).toInt32 = w) (K : am_Ek false G M (k + 1) ls (.int w :: st) ks h nc ns Q) : am_Ek false G M k ls (.int y :: .int x :: st) ks h nc ns Q := am_e_of hn (fun _ => rfl) (fun _ => by simp only [am_one, hw]) K
theorem am_e_idiv {x y w : Int32} (hn : am_nxt M k (pc, len, .idiv, an, z)) (h0 : ¬ y = 0) (hw : x / y = w) (K : am_Ek false G M (k + 1) ls (.int w :: st) ks h nc ns Q) : am_Ek false G M k ls (.int y :: .int x :: st) ks h nc ns Q := am_e_of hn (fun _ => rfl) (fun _ => by simp only [am_one, h0, hw, if_false]) K
theorem am_e_irem {x y w : Int32} (hn : am_nxt M k (pc, len, .irem, an, z)) (h0 : ¬ y = 0) (hw : x - x / y * y = w) (K : am_Ek false G M (k + 1) ls (.int w :: st) ks h nc ns Q) : am_Ek false G M k ls (.int y :: .int x :: st) ks h nc ns Q := am_e_of hn (fun _ => rfl) (fun _ => by simp only [am_one, h0, hw, if_false]) K
theorem am_e_ladd {x y w : Int64} (hn : am_nxt M k (pc, len, .ladd, an, z)) (hw : x + y = w) (K : am_Ek false G M (k + 1) ls (.long w :: st) ks h nc ns Q) : am_Ek false G M k ls (.long y :: .long x :: st) ks h nc ns Q := am_e_of hn (fun _ => rfl) (fun _ => by simp only [am_one, hw]) K
theorem am_e_lsub {x y w : Int64} (hn : am_nxt M k (pc, len, .lsub, an, z)) (hw : x - y = w) (K : am_Ek false G M (k + 1) ls (.long w :: st) ks h nc ns Q) : am_Ek false G M k ls (.long y :: .long x :: st) ks h nc ns Q := am_e_of hn (fun _ => rfl) (fun _ => by simp only [am_one, hw]) K
theorem am_e_lmul {x y w : Int64} (hn : am_nxt M k (pc, len, .lmul, an, z)) (hw : x * y = w) (K : am_Ek false G M (k + 1) ls (.long w :: st) ks h nc ns Q) : am_Ek false G M k ls (.long y :: .long x :: st) ks h nc ns Q := am_e_of hn (fun _ => rfl) (fun _ => by simp only [am_one, hw]) K
theorem am_e_land {x y w : Int64} (hn : am_nxt M k (pc, len, .land, an, z)) (hw : x &&& y = w) (K : am_Ek false G M (k + 1) ls (.long w :: st) ks h nc ns Q) : am_Ek false G M k ls (.long y :: .long x :: st) ks h nc ns Q := am_e_of hn (fun _ => rfl) (fun _ => by simp only [am_one, hw]) K
theorem am_e_ldiv {x y w : Int64} (hn : am_nxt M k (pc, len, .ldiv, an, z)) (h0 : ¬ y = 0) (hw : x / y = w) (K : am_Ek false G M (k + 1) ls (.long w :: st) ks h nc ns Q) : am_Ek false G M k ls (.long y :: .long x :: st) ks h nc ns Q := am_e_of hn (fun _ => rfl) (fun _ => by simp only [am_one, h0, hw, if_false]) K
theorem am_e_lrem {x y w : Int64} (hn : am_nxt M k (pc, len, .lrem, an, z)) (h0 : ¬ y = 0) (hw : x - x / y * y = w) (K : am_Ek false G M (k + 1) ls (.long w :: st) ks h nc ns Q) : am_Ek false G M k ls (.long y :: .long x :: st) ks h nc ns Q := am_e_of hn (fun _ => rfl) (fun _ => by simp only [am_one, h0, hw, if_false]) K
theorem am_e_lneg {x w : Int64} (hn : am_nxt M k (pc, len, .lneg, an, z)) (hw : -x = w) (K : am_Ek false G M (k + 1) ls (.long w :: st) ks h nc ns Q) : am_Ek false G M k ls (.long x :: st) ks h nc ns Q := am_e_of hn (fun _ => rfl) (fun _ => by simp only [am_one, hw]) K
theorem am_e_lcmp {x y : Int64} {w : Int32} (hn : am_nxt M k (pc, len, .lcmp, an, z)) (hw : lg_cmp x y = w) (K : am_Ek false G M (k + 1) ls (.int w :: st) ks h nc ns Q) : am_Ek false G M k ls (.long y :: .long x :: st) ks h nc ns Q := am_e_of hn (fun _ => rfl) (fun _ => by simp only [am_one, hw]) K
theorem am_e_i2l {x : Int32} {w : Int64} (hn : am_nxt M k (pc, len, .i2l, an, z)) (hw : x.toInt64 = w) (K : am_Ek false G M (k + 1) ls (.long w :: st) ks h nc ns Q) : am_Ek false G M k ls (.int x :: st) ks h nc ns Q := am_e_of hn (fun _ => rfl) (fun _ => by simp only [am_one, hw]) K
theorem am_e_l2i {x : Int64} {w : Int32} (hn : am_nxt M k (pc, len, .l2i, an, z)) (hw : x.toInt32 = w) (K : am_Ek false G M (k + 1) ls (.int w :: st) ks h nc ns Q) : am_Ek false G M k ls (.long x :: st) ks h nc ns Q := am_e_of hn (fun _ => rfl) (fun _ => by simp only [am_one, hw]) K
theorem am_e_getf {idx a b c o : Nat} {v : Value} (hn : am_nxt M k (pc, len, .getfield idx, (a, b, c), z)) (hk : ks[o]? = some (.inl a)) (hv : h o b = v) (K : am_Ek false G M (k + 1) ls (v :: st) ks h nc ns Q) : am_Ek false G M k ls (.ref o :: st) ks h nc ns Q := am_e_of hn (fun _ => rfl) (fun _ => by simp only [am_one, hk, Nat.beq_refl, cond_true, hv]) K
theorem am_e_putf {idx a b c o : Nat} {v : Value} (hn : am_nxt M k (pc, len, .putfield idx, (a, b, c), z)) (hk : ks[o]? = some (.inl a)) (hf : am_fit ((G.2.1 a).getD b .int) v = true) (K : am_Ek false G M (k + 1) ls st ks (am_up h o b v) nc ns Q) : am_Ek false G M k ls (v :: .ref o :: st) ks h nc ns Q := am_e_of hn (fun _ => rfl) (fun _ => by simp only [am_one, hk, Nat.beq_refl, hf, Bool.and_self, cond_true, am_φ]) K
theorem am_e_iaload {j : Int32} {o n q : Nat} {v : Int32} (hn : am_nxt M k (pc, len, .iaload, an, z)) (hk : ks[o]? = some (.inr (.int, n))) (hj : ¬ (j < 0 ∨ n ≤ j.toNatClampNeg)) (hq : j.toNatClampNeg = q) (hv : h o q = .int v) (K : am_Ek false G M (k + 1) ls (.int v :: st) ks h nc ns Q) : am_Ek false G M k ls (.int j :: .ref o :: st) ks h nc ns Q := am_e_of hn (fun _ => rfl) (fun _ => by subst hq; simp only [am_one, am_ald, hk, decide_true, cond_true, am_ix, if_neg hj, hv, am_pushI, am_pushL]) K
theorem am_e_baload {j : Int32} {o n q : Nat} {v : Int32} (hn : am_nxt M k (pc, len, .baload, an, z)) (hk : ks[o]? = some (.inr (.boolean, n))) (hj : ¬ (j < 0 ∨ n ≤ j.toNatClampNeg)) (hq : j.toNatClampNeg = q) (hv : h o q = .int v) (K : am_Ek false G M (k + 1) ls (.int v :: st) ks h nc ns Q) : am_Ek false G M k ls (.int j :: .ref o :: st) ks h nc ns Q := am_e_of hn (fun _ => rfl) (fun _ => by subst hq; simp only [am_one, am_ald, hk, decide_true, cond_true, am_ix, if_neg hj, hv, am_pushI, am_pushL]) K
theorem am_e_laload {j : Int32} {o n q : Nat} {v : Int64} (hn : am_nxt M k (pc, len, .laload, an, z)) (hk : ks[o]? = some (.inr (.long, n))) (hj : ¬ (j < 0 ∨ n ≤ j.toNatClampNeg)) (hq : j.toNatClampNeg = q) (hv : h o q = .long v) (K : am_Ek false G M (k + 1) ls (.long v :: st) ks h nc ns Q) : am_Ek false G M k ls (.int j :: .ref o :: st) ks h nc ns Q := am_e_of hn (fun _ => rfl) (fun _ => by subst hq; simp only [am_one, am_ald, hk, decide_true, cond_true, am_ix, if_neg hj, hv, am_pushI, am_pushL]) K
theorem am_e_sald {j : Int32} {n q : Nat} {xs : Nat → Int32} (hn : am_nxt M k (pc, len, .iaload, an, z)) (hk : G.2.2.2.2.1 = some (n, xs)) (hj : ¬ (j < 0 ∨ n ≤ j.toNatClampNeg)) (hq : j.toNatClampNeg = q) (K : am_Ek false G M (k + 1) ls (.int (xs q) :: st) ks h nc ns Q) : am_Ek false G M k ls (.int j :: .retAddr 0 :: st) ks h nc ns Q := am_e_of hn (fun _ => rfl) (fun _ => by subst hq; simp only [am_one, am_ald, hk, decide_true, cond_true, am_ix, if_neg hj, am_pushI]) K
theorem am_e_aaload {j : Int32} {o n q v : Nat} {C : String} (hn : am_nxt M k (pc, len, .aaload, an, z)) (hk : ks[o]? = some (.inr (.object C, n))) (hj : ¬ (j < 0 ∨ n ≤ j.toNatClampNeg)) (hq : j.toNatClampNeg = q) (hv : h o q = .ref v) (K : am_Ek false G M (k + 1) ls (.ref v :: st) ks h nc ns Q) : am_Ek false G M k ls (.int j :: .ref o :: st) ks h nc ns Q := am_e_of hn (fun _ => rfl) (fun _ => by subst hq; simp only [am_one, am_aald, hk, am_ix, if_neg hj, hv, am_pushR]) K
theorem am_e_iastore {j : Int32} {o n q : Nat} {v : Int32} (hn : am_nxt M k (pc, len, .iastore, an, z)) (hk : ks[o]? = some (.inr (.int, n))) (hj : ¬ (j < 0 ∨ n ≤ j.toNatClampNeg)) (hq : j.toNatClampNeg = q) (K : am_Ek false G M (k + 1) ls st ks (am_up h o q (.int v)) nc ns Q) : am_Ek false G M k ls (.int v :: .int j :: .ref o :: st) ks h nc ns Q := am_e_of hn (fun _ => rfl) (fun _ => by subst hq; simp only [am_one, am_ast, hk, decide_true, cond_true, am_ix, if_neg hj, am_φ, am_pushI, am_pushL]) K
theorem am_e_lastore {j : Int32} {o n q : Nat} {v : Int64} (hn : am_nxt M k (pc, len, .lastore, an, z)) (hk : ks[o]? = some (.inr (.long, n))) (hj : ¬ (j < 0 ∨ n ≤ j.toNatClampNeg)) (hq : j.toNatClampNeg = q) (K : am_Ek false G M (k + 1) ls st ks (am_up h o q (.long v)) nc ns Q) : am_Ek false G M k ls (.long v :: .int j :: .ref o :: st) ks h nc ns Q := am_e_of hn (fun _ => rfl) (fun _ => by subst hq; simp only [am_one, am_ast, hk, decide_true, cond_true, am_ix, if_neg hj, am_φ, am_pushI, am_pushL]) K
theorem am_e_bastore {j : Int32} {o n q : Nat} {v : Int32} (hn : am_nxt M k (pc, len, .bastore, an, z)) (hk : ks[o]? = some (.inr (.boolean, n))) (hf : am_fit .boolean (.int v) = true) (hj : ¬ (j < 0 ∨ n ≤ j.toNatClampNeg)) (hq : j.toNatClampNeg = q) (K : am_Ek false G M (k + 1) ls st ks (am_up h o q (.int v)) nc ns Q) : am_Ek false G M k ls (.int v :: .int j :: .ref o :: st) ks h nc ns Q := am_e_of hn (fun _ => rfl) (fun _ => by subst hq; simp only [am_one, am_ast, hk, hf, decide_true, cond_true, am_ix, if_neg hj, am_φ, am_pushI]) K
theorem am_e_alen {o n : Nat} {t : FieldType} {w : Int32} (hn : am_nxt M k (pc, len, .arraylength, an, z)) (hk : ks[o]? = some (.inr (t, n))) (hw : Int32.ofNat n = w) (K : am_Ek false G M (k + 1) ls (.int w :: st) ks h nc ns Q) : am_Ek false G M k ls (.ref o :: st) ks h nc ns Q := am_e_of hn (fun _ => rfl) (fun _ => by simp only [am_one, am_len, hk, hw]) K
theorem am_e_slen {n : Nat} {xs : Nat → Int32} {w : Int32} (hn : am_nxt M k (pc, len, .arraylength, an, z)) (hk : G.2.2.2.2.1 = some (n, xs)) (hw : Int32.ofNat n = w) (K : am_Ek false G M (k + 1) ls (.int w :: st) ks h nc ns Q) : am_Ek false G M k ls (.retAddr 0 :: st) ks h nc ns Q := am_e_of hn (fun _ => rfl) (fun _ => by simp only [am_one, am_len, hk, hw]) K
theorem am_e_max {idx a b : Nat} {x y w : Int32} (hn : am_nxt M k (pc, len, .invokestatic idx, (a, b, 1), z)) (hr : (Nat.ble 1 M.2.2.1.1 && Nat.ble (am_cat st + 13) M.2.2.1.2.1 && Nat.ble nc M.2.2.1.2.2.1 && Nat.ble ns M.2.2.1.2.2.2) = true) (hw : (if x < y then y else x) = w) (K : am_Ek false G M (k + 1) ls (.int w :: st) ks h nc ns Q) : am_Ek false G M k ls (.int y :: .int x :: st) ks h nc ns Q := am_e_of hn (fun _ => rfl) (fun _ => by simp only [am_one, am_math, hr, cond_true, hw]) K
theorem am_e_min {idx a b : Nat} {x y w : Int32} (hn : am_nxt M k (pc, len, .invokestatic idx, (a, b, 2), z)) (hr : (Nat.ble 1 M.2.2.1.1 && Nat.ble (am_cat st + 13) M.2.2.1.2.1 && Nat.ble nc M.2.2.1.2.2.1 && Nat.ble ns M.2.2.1.2.2.2) = true) (hw : (if y < x then y else x) = w) (K : am_Ek false G M (k + 1) ls (.int w :: st) ks h nc ns Q) : am_Ek false G M k ls (.int y :: .int x :: st) ks h nc ns Q := am_e_of hn (fun _ => rfl) (fun _ => by simp only [am_one, am_math, hr, cond_true, hw]) K
/-- the a-th instruction stands at t -/
def am_tgt (M : am_M) (a : Nat) (t : Int) : Prop := (M.2.2.2.drop a).head?.map (fun j => (j.1 : Int)) = some t
theorem am_jp_ok {a : Nat} {t : Int} (ht : am_tgt M a t) : am_jp M a t ls st ks h nc ns = some (.inl (M.2.2.2.drop a, ls, st, ks, h, nc, ns)) := by
  unfold am_tgt at ht
  unfold am_jp
  cases hd : M.2.2.2.drop a with
  | nil => rw [hd] at ht; cases ht
  | cons j r =>
    rw [hd] at ht
    have : (j.1 : Int) = t := Option.some.inj ht
    simp only [this, if_true]
theorem am_e_goto {off : Int} {a b c : Nat} (hn : am_cur M k (pc, len, .goto off, (a, b, c), z)) (ht : am_tgt M a (pc + off)) (K : am_Ek false G M a ls st ks h nc ns Q) : am_Ek false G M k ls st ks h nc ns Q := by
  unfold am_Ek
  rw [hn]
  exact am_Ev_one rfl (am_jp_ok ht) K
theorem am_e_ifT {cc : ClassFile.Cond} {off : Int} {a b c : Nat} {x : Int32} (hn : am_nxt M k (pc, len, .ifCond cc off, (a, b, c), z)) (hc : am_cmp cc x 0 = true) (ht : am_tgt M a (pc + off)) (K : am_Ek false G M a ls st ks h nc ns Q) : am_Ek false G M k ls (.int x :: st) ks h nc ns Q := by
  unfold am_Ek
  rw [hn.1]
  refine am_Ev_one rfl ?_ K
  show am_br M _ _ (am_cmp cc x 0) off ls st ks h nc ns = _
  unfold am_br
  rw [hc, cond_true]
  exact am_jp_ok ht
theorem am_e_ifF {cc : ClassFile.Cond} {off : Int} {a b c : Nat} {x : Int32} (hn : am_nxt M k (pc, len, .ifCond cc off, (a, b, c), z)) (hc : am_cmp cc x 0 = false) (K : am_Ek false G M (k + 1) ls st ks h nc ns Q) : am_Ek false G M k ls (.int x :: st) ks h nc ns Q := by
  unfold am_Ek
  rw [hn.1]
  refine am_Ev_one rfl ?_ K
  show am_br M _ _ (am_cmp cc x 0) off ls st ks h nc ns = _
  unfold am_br
  rw [hc, cond_false]
  exact am_go_ok hn.2
theorem am_e_cmpT {cc : ClassFile.Cond} {off : Int} {a b c : Nat} {x y : Int32} (hn : am_nxt M k (pc, len, .if_icmp cc off, (a, b, c), z)) (hc : am_cmp cc x y = true) (ht : am_tgt M a (pc + off)) (K : am_Ek false G M a ls st ks h nc ns Q) : am_Ek false G M k ls (.int y :: .int x :: st) ks h nc ns Q := by
  unfold am_Ek
  rw [hn.1]
  refine am_Ev_one rfl ?_ K
  show am_br M _ _ (am_cmp cc x y) off ls st ks h nc ns = _
  unfold am_br
  rw [hc, cond_true]
  exact am_jp_ok ht
theorem am_e_cmpF {cc : ClassFile.Cond} {off : Int} {a b c : Nat} {x y : Int32} (hn : am_nxt M k (pc, len, .if_icmp cc off, (a, b, c), z)) (hc : am_cmp cc x y = false) (K : am_Ek false G M (k + 1) ls st ks h nc ns Q) : am_Ek false G M k ls (.int y :: .int x :: st) ks h nc ns Q := by
  unfold am_Ek
  rw [hn.1]
  refine am_Ev_one rfl ?_ K
  show am_br M _ _ (am_cmp cc x y) off ls st ks h nc ns = _
  unfold am_br
  rw [hc, cond_false]
  exact am_go_ok hn.2
theorem am_seek_suf (t : Int) : ∀ l : List am_I, am_seek l t = l.drop (l.length - (am_seek l t).length) := by
  intro l
  induction l with
  | nil => rfl
  | cons j r ih =>
    unfold am_seek
    split
    · simp
    · have hle : (am_seek r t).length ≤ r.length := by
        rw [ih]; simp
      rw [List.length_cons, Nat.succ_sub hle, List.drop_succ_cons]
      exact ih
theorem am_sw_ok {a : Nat} {t : Int} (ha : a < M.2.2.2.length) (hs : (am_seek M.2.2.2 t).length = M.2.2.2.length - a) : am_sw M t ls st ks h nc ns = some (.inl (M.2.2.2.drop a, ls, st, ks, h, nc, ns)) := by
  have h1 := am_seek_suf t M.2.2.2
  rw [hs, Nat.sub_sub_self (Nat.le_of_lt ha)] at h1
  unfold am_sw
  rw [h1]
  cases hd : M.2.2.2.drop a with
  | nil => rw [List.drop_eq_nil_iff] at hd; omega
  | cons j r => rfl
theorem am_e_swI {d lo hi : Int} {offs : Array Int} {x : Int32} {off : Int} {a : Nat} (hn : am_cur M k (pc, len, .tableswitch d lo hi offs, an, z)) (hx : ¬ (x.toInt < lo ∨ hi < x.toInt)) (ho : offs[(x.toInt - lo).toNat]? = some off) (ht : a < M.2.2.2.length ∧ (am_seek M.2.2.2 (pc + off)).length = M.2.2.2.length - a) (K : am_Ek false G M a ls st ks h nc ns Q) : am_Ek false G M k ls (.int x :: st) ks h nc ns Q := by
  unfold am_Ek
  rw [hn]
  refine am_Ev_one rfl ?_ K
  simp only [am_one, if_neg hx, ho]
  exact am_sw_ok ht.1 ht.2
theorem am_e_swO {d lo hi : Int} {offs : Array Int} {x : Int32} {a : Nat} (hn : am_cur M k (pc, len, .tableswitch d lo hi offs, an, z)) (hx : x.toInt < lo ∨ hi < x.toInt) (ht : a < M.2.2.2.length ∧ (am_seek M.2.2.2 (pc + d)).length = M.2.2.2.length - a) (K : am_Ek false G M a ls st ks h nc ns Q) : am_Ek false G M k ls (.int x :: st) ks h nc ns Q := by
  unfold am_Ek
  rw [hn]
  refine am_Ev_one rfl ?_ K
  simp only [am_one, if_pos hx]
  exact am_sw_ok ht.1 ht.2
theorem am_e_iret {v : Int32} {ty : FieldType} (hn : am_cur M k (pc, len, .ireturn, an, z)) (ht : M.2.1.2.1 = some ty) (hf : am_fit ty (.int v) = true) (hb : (Nat.ble nc M.2.2.1.2.2.1 && Nat.ble ns M.2.2.1.2.2.2) = true) (K : Q (some (.int v)) ks h) : am_Ek false G M k ls [.int v] ks h nc ns Q := by
  unfold am_Ek
  rw [hn]
  refine am_Ev_end (r := (some (.int v), ks, h)) ?_ K
  simp only [am_end, ht, hf, cond_true, am_ret, hb]
theorem am_e_lret {v : Int64} (hn : am_cur M k (pc, len, .lreturn, an, z)) (ht : M.2.1.2.1 = some .long) (hb : (Nat.ble nc M.2.2.1.2.2.1 && Nat.ble ns M.2.2.1.2.2.2) = true) (K : Q (some (.long v)) ks h) : am_Ek false G M k ls [.long v] ks h nc ns Q := by
  unfold am_Ek
  rw [hn]
  refine am_Ev_end (r := (some (.long v), ks, h)) ?_ K
  simp only [am_end, ht, cond_true, am_ret, hb]
theorem am_e_vret (hn : am_cur M k (pc, len, .return_, an, z)) (ht : M.2.1.2.1 = none) (hb : (Nat.ble nc M.2.2.1.2.2.1 && Nat.ble ns M.2.2.1.2.2.2) = true) (K : Q none ks h) : am_Ek false G M k ls [] ks h nc ns Q := by
  unfold am_Ek
  rw [hn]
  refine am_Ev_end (r := (none, ks, h)) ?_ K
  simp only [am_end, ht, cond_true, am_ret, hb]
/-- a callee's run, then the caller's -/
theorem am_Ev_call {M' : am_M} {i : am_I} {cs : List am_I} {a : Nat} {as rest : List Value} {ex : Bool} (hM : G.1 a = some M') (hex : ex = false) (hok : am_okC M M' as rest nc ns = true) (hz : M'.2.2.1.2.2 = (0, 0)) (hend : am_end M (i :: cs, ls, st, ks, h, nc, ns) = none) (hcs : cs.head?.map (fun j => j.1) = some (i.1 + i.2.1))
    (hone : ∀ rc, am_one am_φ ex G rc M (i :: cs, ls, st, ks, h, nc, ns) = am_calls ex M M' a rc i cs ls as rest ks h nc ns)
    (K : am_Ek ex (am_noS G) M' 0 (lv_args 0 as) [] ks h 0 0 (fun v ks h => am_Ev ex G M (cs, ls, v.toList ++ rest, ks, h, nc, ns) Q)) : am_Ev ex G M (i :: cs, ls, st, ks, h, nc, ns) Q := by
  obtain ⟨n, r, hr, n2, r2, hr2, hQ⟩ := K
  refine ⟨(n + n2) + 1, r2, ?_, hQ⟩
  rw [am_run_s, hend, hone]
  have h1 : am_rc ex (n + n2) G a as ks h = some r := by
    unfold am_rc
    rw [hM]
    exact am_run_le (Nat.le_add_right _ _) hr
  unfold am_calls
  rw [hok, cond_true, h1]
  obtain ⟨v, ks', h'⟩ := r
  have hz1 : M'.2.2.1.2.2.1 = 0 := by rw [hz]
  have hz2 : M'.2.2.1.2.2.2 = 0 := by rw [hz]
  simp only [hex, Bool.not_false, Bool.true_or, cond_true, hz1, hz2, Nat.add_zero, am_go_ok hcs]
  rw [← hex]
  exact am_run_le (Nat.le_add_left _ _) hr2
theorem am_e_callV {idx a b c : Nat} {M' : am_M} {o : Nat} {ar rest : List Value} {L : am_L} (hn : am_nxt M k (pc, len, .invokevirtual idx, (a, b, c + 1), z)) (hM : G.1 a = some M') (ht : st.take M'.2.1.2.2 = ar) (hd : st.drop M'.2.1.2.2 = .ref o :: rest) (hl : Nat.beq ar.length M'.2.1.2.2 = true) (hk : ks[o]? = some (.inl M'.1.1)) (hok : am_okC M M' (.ref o :: ar.reverse) rest nc ns = true) (hz : M'.2.2.1.2.2 = (0, 0)) (hL : lv_args 0 (.ref o :: ar.reverse) = L)
    (K : am_Ek false (am_noS G) M' 0 L [] ks h 0 0 (fun v ks h => match v with | some w => am_Ek false G M (k + 1) ls (w :: rest) ks h nc ns Q | none => am_Ek false G M (k + 1) ls rest ks h nc ns Q)) : am_Ek false G M k ls st ks h nc ns Q := by
  unfold am_Ek
  rw [hn.1]
  refine am_Ev_call hM rfl hok hz rfl hn.2 (fun rc => ?_) ?_
  · simp only [am_one, am_callV, hM, hd, hk, ht, Nat.beq_refl, hl, Bool.and_self, cond_true]
  · rw [hL]
    refine am_Ev_mono K (fun v ks h hh => ?_)
    cases v with
    | none => exact hh
    | some w => exact hh
theorem am_e_callI {idx a b c : Nat} {M' : am_M} {o : Nat} {ar rest : List Value} {L : am_L} (hn : am_nxt M k (pc, len, .invokespecial idx, (a, b, c + 1), z)) (hM : G.1 a = some M') (ht : st.take M'.2.1.2.2 = ar) (hd : st.drop M'.2.1.2.2 = .ref o :: rest) (hl : Nat.beq ar.length M'.2.1.2.2 = true) (hk : ks[o]? = some (.inl M'.1.1)) (hok : am_okC M M' (.ref o :: ar.reverse) rest nc ns = true) (hz : M'.2.2.1.2.2 = (0, 0)) (hL : lv_args 0 (.ref o :: ar.reverse) = L)
    (K : am_Ek false (am_noS G) M' 0 L [] ks h 0 0 (fun v ks h => match v with | some w => am_Ek false G M (k + 1) ls (w :: rest) ks h nc ns Q | none => am_Ek false G M (k + 1) ls rest ks h nc ns Q)) : am_Ek false G M k ls st ks h nc ns Q := by
  unfold am_Ek
  rw [hn.1]
  refine am_Ev_call hM rfl hok hz rfl hn.2 (fun rc => ?_) ?_
  · simp only [am_one, am_callV, hM, hd, hk, ht, Nat.beq_refl, hl, Bool.and_self, cond_true]
  · rw [hL]
    refine am_Ev_mono K (fun v ks h hh => ?_)
    cases v with
    | none => exact hh
    | some w => exact hh
theorem am_e_callS {idx a b c : Nat} {M' : am_M} {ar rest : List Value} {L : am_L} (hn : am_nxt M k (pc, len, .invokestatic idx, (a, b, c + 3), z)) (hM : G.1 a = some M') (ht : st.take M'.2.1.2.2 = ar) (hd : st.drop M'.2.1.2.2 = rest) (hl : Nat.beq ar.length M'.2.1.2.2 = true) (hok : am_okC M M' ar.reverse rest nc ns = true) (hz : M'.2.2.1.2.2 = (0, 0)) (hL : lv_args 0 ar.reverse = L)
    (K : am_Ek false (am_noS G) M' 0 L [] ks h 0 0 (fun v ks h => match v with | some w => am_Ek false G M (k + 1) ls (w :: rest) ks h nc ns Q | none => am_Ek false G M (k + 1) ls rest ks h nc ns Q)) : am_Ek false G M k ls st ks h nc ns Q := by
  unfold am_Ek
  rw [hn.1]
  refine am_Ev_call hM rfl hok hz rfl hn.2 (fun rc => ?_) ?_
  · simp only [am_one, am_callS, hM, hd, ht, hl, cond_true]
  · rw [hL]
    refine am_Ev_mono K (fun v ks h hh => ?_)
    cases v with
    | none => exact hh
    | some w => exact hh
def am_eqI (a b : am_I) : Bool := decide (a.1 = b.1) && decide (a.2.1 = b.2.1) && decide (a.2.2.1 = b.2.2.1) && decide (a.2.2.2.1 = b.2.2.2.1) && decide (a.2.2.2.2 = b.2.2.2.2)
theorem am_eqI_ok {a b : am_I} (h : am_eqI a b = true) : a = b := by
  unfold am_eqI at h
  simp only [Bool.and_eq_true, decide_eq_true_eq] at h
  obtain ⟨⟨⟨⟨h1, h2⟩, h3⟩, h4⟩, h5⟩ := h
  exact Prod.ext h1 (Prod.ext h2 (Prod.ext h3 (Prod.ext h4 h5)))
def am_cB (M : am_M) (k : Nat) (i : am_I) : Bool := match M.2.2.2[k]? with
  | some j => am_eqI j i
  | none => false
def am_nB (M : am_M) (k : Nat) (i : am_I) : Bool := am_cB M k i && (match M.2.2.2[k + 1]? with
  | some j => Nat.beq j.1 (i.1 + i.2.1)
  | none => false)
theorem am_cur_of {M : am_M} {k : Nat} {i : am_I} (h : am_cB M k i = true) : am_cur M k i := by
  unfold am_cB at h
  split at h
  · rename_i j hj
    have := am_eqI_ok h
    subst this
    obtain ⟨hl, he⟩ := List.getElem?_eq_some_iff.mp hj
    unfold am_cur
    rw [List.drop_eq_getElem_cons hl, he]
  · cases h
theorem am_nxt_of {M : am_M} {k : Nat} {i : am_I} (h : am_nB M k i = true) : am_nxt M k i := by
  unfold am_nB at h
  rw [Bool.and_eq_true] at h
  refine ⟨am_cur_of h.1, ?_⟩
  rw [List.head?_drop]
  obtain ⟨-, h⟩ := h
  split at h
  · rename_i j hj
    rw [hj]
    exact congrArg some (Nat.eq_of_beq_eq_true h)
  · cases h
theorem am_tgt_of {M : am_M} {a : Nat} {t : Int} (h : decide ((M.2.2.2[a]?).map (fun j => (j.1 : Int)) = some t) = true) : am_tgt M a t := by
  unfold am_tgt
  rw [List.head?_drop]
  exact of_decide_eq_true h
theorem am_c_ltT {x y : Int32} (h : x < y) : am_cmp .lt x y = true := decide_eq_true h
theorem am_c_ltF {x y : Int32} (h : ¬ x < y) : am_cmp .lt x y = false := decide_eq_false h
theorem am_c_geT {x y : Int32} (h : ¬ x < y) : am_cmp .ge x y = true := decide_eq_true (Int32.not_lt.mp h)
theorem am_c_geF {x y : Int32} (h : x < y) : am_cmp .ge x y = false := decide_eq_false (Int32.not_le.mpr h)
theorem am_c_gtT {x y : Int32} (h : y < x) : am_cmp .gt x y = true := decide_eq_true h
theorem am_c_gtF {x y : Int32} (h : ¬ y < x) : am_cmp .gt x y = false := decide_eq_false h
theorem am_c_leT {x y : Int32} (h : ¬ y < x) : am_cmp .le x y = true := decide_eq_true (Int32.not_lt.mp h)
theorem am_c_leF {x y : Int32} (h : y < x) : am_cmp .le x y = false := decide_eq_false (Int32.not_le.mpr h)
theorem am_c_eqT {x y : Int32} (h : x = y) : am_cmp .eq x y = true := decide_eq_true h
theorem am_c_eqF {x y : Int32} (h : ¬ x = y) : am_cmp .eq x y = false := decide_eq_false h
theorem am_c_neT {x y : Int32} (h : ¬ x = y) : am_cmp .ne x y = true := decide_eq_true h
theorem am_c_neF {x y : Int32} (h : x = y) : am_cmp .ne x y = false := decide_eq_false (fun q => q h)
theorem am_lt_irr (x : Int32) : ¬ x < x := Int32.lt_irrefl
theorem am_e_sald1 {j v : Int32} {n q : Nat} {xs : Nat → Int32} (hn : am_nxt M k (pc, len, .iaload, an, z)) (hk : G.2.2.2.2.1 = some (n, xs)) (hj : ¬ (j < 0 ∨ n ≤ j.toNatClampNeg)) (hq : j.toNatClampNeg = q) (hv : xs q = v) (K : am_Ek false G M (k + 1) ls (.int v :: st) ks h nc ns Q) : am_Ek false G M k ls (.int j :: .retAddr 0 :: st) ks h nc ns Q := am_e_of hn (fun _ => rfl) (fun _ => by subst hq; simp only [am_one, am_ald, hk, decide_true, cond_true, am_ix, if_neg hj, hv, am_pushI]) K
end AME
