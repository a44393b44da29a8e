/-! ===== THE TRANSFER IS SOUND, an instruction at a time ===== -/
/-- the instruction goes on at the next one, and what is then known holds -/
def ab_Ok (T : ab_T) (md : List (Nat × Nat)) (G : am_G) (M : am_M) (i : am_I) (ls : am_L) (st : List Value) (h : am_H) (nc ns : Nat) (F' : ab_F) (E : ab_E) : Prop :=
  ∃ ls' st' h', (∀ cs, am_end M (i :: cs, ls, st, am_ks0, h, nc, ns) = none) ∧ (∀ cs, am_one am_φ false G am_rc0 M (i :: cs, ls, st, am_ks0, h, nc, ns) = am_go i cs ls' st' am_ks0 h' nc ns) ∧ ab_gF F' ls' st' h' ∧ ab_Inv (ab_hi T) h' ∧ ab_Fr md h h' ∧ ab_Eff E ls h ls' h'
section ABO
variable {T : ab_T} {md : List (Nat × Nat)} {G : am_G} {M : am_M} {i : am_I} {ls : am_L} {st : List Value} {h : am_H} {nc ns : Nat} {F F' : ab_F} {E : ab_E} {pc len : Nat} {an : Nat × Nat × Nat} {z : Int}
theorem ab_Ok_st {st' : List Value} {es : List ab_S} (hI : ab_Inv (ab_hi T) h) (hF : ab_gF F ls st h) (hs : ab_gSt ls h es st') (he : ∀ cs, am_end M (i :: cs, ls, st, am_ks0, h, nc, ns) = none) (ho : ∀ cs, am_one am_φ false G am_rc0 M (i :: cs, ls, st, am_ks0, h, nc, ns) = am_go i cs ls st' am_ks0 h nc ns) : ab_Ok T md G M i ls st h nc ns (F.1, es, F.2.2) ab_e0 :=
  ⟨ls, st', h, he, ho, ⟨hF.1, hs, hF.2.2⟩, hI, ab_Fr_refl, ab_Eff_0⟩
theorem ab_ldL_ok {j : Nat} {g : ab_V → Bool} (hF : ab_gF F ls st h) (ht : ab_ldL F j g = some (F', E)) : ∃ V v, am_get ls j = some v ∧ ab_g V v ∧ g V = true ∧ F' = (F.1, ab_rd V (0, j) :: F.2.1, F.2.2) ∧ E = ab_e0 := by
  unfold ab_ldL at ht
  split at ht
  · rename_i V hV
    obtain ⟨v, g1, g2⟩ := hF.1 _ (ab_loc_mem hV)
    cases hg : g V with
    | false => rw [hg] at ht; cases ht
    | true =>
      rw [hg] at ht
      cases ht
      exact ⟨V, v, g1, g2, hg, rfl, rfl⟩
  · cases ht
theorem ab_stL_ok {j : Nat} {two : Bool} {g : ab_V → Bool} (hF : ab_gF F ls st h) (ht : ab_stL M F j two g = some (F', E)) : ∃ e v st', st = v :: st' ∧ ab_g e v ∧ g e = true ∧ Nat.blt (cond two (j + 1) j) M.2.1.1 = true ∧ ab_gF F' (ab_setC ls j two v) st' h ∧ ab_Eff E ls h (ab_setC ls j two v) h := by
  obtain ⟨f1, hs, f3⟩ := hF
  unfold ab_stL at ht
  split at ht
  · rename_i e es hst
    rw [hst] at hs
    match st, hs with
    | [], hs => exact hs.elim
    | v :: st', hs =>
      cases hg : (g e.1 && Nat.blt (cond two (j + 1) j) M.2.1.1) with
      | false => rw [hg] at ht; cases ht
      | true =>
        rw [hg, cond_true] at ht
        rw [Bool.and_eq_true] at hg
        cases ht
        refine ⟨e.1, v, st', rfl, hs.1.1, hg.1, hg.2, ab_setL_ok f1 hs.2 f3 hs.1.1, ?_⟩
        cases two with
        | true => exact ab_Eff_3
        | false => exact ab_Eff_1 (fun d y hb hy => ab_by_ok hs.1 hb hy)
  · cases ht
theorem ab_two_ok {g : ab_S → ab_S → Option ab_S} (hF : ab_gF F ls st h) (ht : ab_two F g = some (F', E)) : ∃ a b e es x y st', st = .int y :: .int x :: st' ∧ ab_gS ls h a (.int x) ∧ ab_gS ls h b (.int y) ∧ ab_is0 a = true ∧ ab_is0 b = true ∧ g a b = some e ∧ ab_gSt ls h es st' ∧ F' = (F.1, e :: es, F.2.2) ∧ E = ab_e0 := by
  obtain ⟨f1, hs, f3⟩ := hF
  unfold ab_two at ht
  split at ht
  · rename_i b a es hst
    rw [hst] at hs
    match st, hs with
    | [], hs => exact hs.elim
    | [_], hs => exact hs.2.elim
    | w :: v :: st', hs =>
      cases hg : (ab_is0 a && ab_is0 b) with
      | false => rw [hg] at ht; cases ht
      | true =>
        rw [hg, cond_true] at ht
        rw [Bool.and_eq_true] at hg
        split at ht
        · rename_i e he
          cases ht
          obtain ⟨y, rfl, -⟩ := ab_g0 hg.2 hs.1.1
          obtain ⟨x, rfl, -⟩ := ab_g0 hg.1 hs.2.1.1
          exact ⟨a, b, e, es, x, y, st', rfl, hs.2.1, hs.1, hg.1, hg.2, he, hs.2.2, rfl, rfl⟩
        · cases ht
  · cases ht
theorem ab_twoL_ok {g : ab_S → ab_S → Option ab_S} (hF : ab_gF F ls st h) (ht : ab_twoL F g = some (F', E)) : ∃ a b e es x y st', st = .long y :: .long x :: st' ∧ ab_gS ls h a (.long x) ∧ ab_gS ls h b (.long y) ∧ g a b = some e ∧ ab_gSt ls h es st' ∧ F' = (F.1, e :: es, F.2.2) ∧ E = ab_e0 := by
  obtain ⟨f1, hs, f3⟩ := hF
  unfold ab_twoL at ht
  split at ht
  · rename_i b a es hst
    rw [hst] at hs
    match st, hs with
    | [], hs => exact hs.elim
    | [_], hs => exact hs.2.elim
    | w :: v :: st', hs =>
      cases hg : (ab_isLg a.1 && ab_isLg b.1) with
      | false => rw [hg] at ht; cases ht
      | true =>
        rw [hg, cond_true] at ht
        rw [Bool.and_eq_true] at hg
        split at ht
        · rename_i e he
          cases ht
          obtain ⟨y, rfl⟩ := ab_gL hg.2 hs.1.1
          obtain ⟨x, rfl⟩ := ab_gL hg.1 hs.2.1.1
          exact ⟨a, b, e, es, x, y, st', rfl, hs.2.1, hs.1, he, hs.2.2, rfl, rfl⟩
        · cases ht
  · cases ht
/-! loads -/
theorem ab_t_aload {j : Nat} (hI : ab_Inv (ab_hi T) h) (hF : ab_gF F ls st h) (ht : ab_ldL F j (fun V => Nat.beq V.1 4) = some (F', E)) : ab_Ok T md G M (pc, len, .aload j, an, z) ls st h nc ns F' E := by
  obtain ⟨V, v, g1, g2, g3, rfl, rfl⟩ := ab_ldL_ok hF ht
  obtain ⟨x, rfl, -⟩ := ab_g4 g3 g2
  exact ab_Ok_st (st' := .ref x :: st) hI hF ⟨ab_rd_ok g2 g1, hF.2.1⟩ (fun _ => rfl) (fun _ => by simp only [am_one, g1])
theorem ab_t_aload_n {j : Fin 4} (hI : ab_Inv (ab_hi T) h) (hF : ab_gF F ls st h) (ht : ab_ldL F j.val (fun V => Nat.beq V.1 4) = some (F', E)) : ab_Ok T md G M (pc, len, .aload_n j, an, z) ls st h nc ns F' E := by
  obtain ⟨V, v, g1, g2, g3, rfl, rfl⟩ := ab_ldL_ok hF ht
  obtain ⟨x, rfl, -⟩ := ab_g4 g3 g2
  exact ab_Ok_st (st' := .ref x :: st) hI hF ⟨ab_rd_ok g2 g1, hF.2.1⟩ (fun _ => rfl) (fun _ => by simp only [am_one, g1])
theorem ab_t_iload {j : Nat} (hI : ab_Inv (ab_hi T) h) (hF : ab_gF F ls st h) (ht : ab_ldL F j (fun V => Nat.beq V.1 0) = some (F', E)) : ab_Ok T md G M (pc, len, .iload j, an, z) ls st h nc ns F' E := by
  obtain ⟨V, v, g1, g2, g3, rfl, rfl⟩ := ab_ldL_ok hF ht
  obtain ⟨x, rfl, -⟩ := ab_gI g3 g2
  exact ab_Ok_st (st' := .int x :: st) hI hF ⟨ab_rd_ok g2 g1, hF.2.1⟩ (fun _ => rfl) (fun _ => by simp only [am_one, g1])
theorem ab_t_iload_n {j : Fin 4} (hI : ab_Inv (ab_hi T) h) (hF : ab_gF F ls st h) (ht : ab_ldL F j.val (fun V => Nat.beq V.1 0) = some (F', E)) : ab_Ok T md G M (pc, len, .iload_n j, an, z) ls st h nc ns F' E := by
  obtain ⟨V, v, g1, g2, g3, rfl, rfl⟩ := ab_ldL_ok hF ht
  obtain ⟨x, rfl, -⟩ := ab_gI g3 g2
  exact ab_Ok_st (st' := .int x :: st) hI hF ⟨ab_rd_ok g2 g1, hF.2.1⟩ (fun _ => rfl) (fun _ => by simp only [am_one, g1])
theorem ab_t_lload {j : Nat} (hI : ab_Inv (ab_hi T) h) (hF : ab_gF F ls st h) (ht : ab_ldL F j ab_isLg = some (F', E)) : ab_Ok T md G M (pc, len, .lload j, an, z) ls st h nc ns F' E := by
  obtain ⟨V, v, g1, g2, g3, rfl, rfl⟩ := ab_ldL_ok hF ht
  obtain ⟨x, rfl⟩ := ab_gL g3 g2
  exact ab_Ok_st (st' := .long x :: st) hI hF ⟨ab_rd_ok g2 g1, hF.2.1⟩ (fun _ => rfl) (fun _ => by simp only [am_one, g1])
theorem ab_t_lload_n {j : Fin 4} (hI : ab_Inv (ab_hi T) h) (hF : ab_gF F ls st h) (ht : ab_ldL F j.val ab_isLg = some (F', E)) : ab_Ok T md G M (pc, len, .lload_n j, an, z) ls st h nc ns F' E := by
  obtain ⟨V, v, g1, g2, g3, rfl, rfl⟩ := ab_ldL_ok hF ht
  obtain ⟨x, rfl⟩ := ab_gL g3 g2
  exact ab_Ok_st (st' := .long x :: st) hI hF ⟨ab_rd_ok g2 g1, hF.2.1⟩ (fun _ => rfl) (fun _ => by simp only [am_one, g1])
/-! stores -/
theorem ab_t_istore {j : Nat} (hI : ab_Inv (ab_hi T) h) (hF : ab_gF F ls st h) (ht : ab_stL M F j false (fun V => Nat.beq V.1 0) = some (F', E)) : ab_Ok T md G M (pc, len, .istore j, an, z) ls st h nc ns F' E := by
  obtain ⟨V, v, st', rfl, g2, g3, g4, g5, g6⟩ := ab_stL_ok hF ht
  obtain ⟨x, rfl, -⟩ := ab_gI g3 g2
  exact ⟨_, st', h, fun _ => rfl, fun _ => by simp only [am_one, show Nat.blt j M.2.1.1 = true from g4, cond_true, am_φ, am_pushI]; rfl, g5, hI, ab_Fr_refl, g6⟩
theorem ab_t_istore_n {j : Fin 4} (hI : ab_Inv (ab_hi T) h) (hF : ab_gF F ls st h) (ht : ab_stL M F j.val false (fun V => Nat.beq V.1 0) = some (F', E)) : ab_Ok T md G M (pc, len, .istore_n j, an, z) ls st h nc ns F' E := by
  obtain ⟨V, v, st', rfl, g2, g3, g4, g5, g6⟩ := ab_stL_ok hF ht
  obtain ⟨x, rfl, -⟩ := ab_gI g3 g2
  exact ⟨_, st', h, fun _ => rfl, fun _ => by simp only [am_one, show Nat.blt j.val M.2.1.1 = true from g4, cond_true, am_φ, am_pushI]; rfl, g5, hI, ab_Fr_refl, g6⟩
theorem ab_t_lstore {j : Nat} (hI : ab_Inv (ab_hi T) h) (hF : ab_gF F ls st h) (ht : ab_stL M F j true ab_isLg = some (F', E)) : ab_Ok T md G M (pc, len, .lstore j, an, z) ls st h nc ns F' E := by
  obtain ⟨V, v, st', rfl, g2, g3, g4, g5, g6⟩ := ab_stL_ok hF ht
  obtain ⟨x, rfl⟩ := ab_gL g3 g2
  exact ⟨_, st', h, fun _ => rfl, fun _ => by simp only [am_one, show Nat.blt (j + 1) M.2.1.1 = true from g4, cond_true, am_φ, am_pushL]; rfl, g5, hI, ab_Fr_refl, g6⟩
theorem ab_t_lstore_n {j : Fin 4} (hI : ab_Inv (ab_hi T) h) (hF : ab_gF F ls st h) (ht : ab_stL M F j.val true ab_isLg = some (F', E)) : ab_Ok T md G M (pc, len, .lstore_n j, an, z) ls st h nc ns F' E := by
  obtain ⟨V, v, st', rfl, g2, g3, g4, g5, g6⟩ := ab_stL_ok hF ht
  obtain ⟨x, rfl⟩ := ab_gL g3 g2
  exact ⟨_, st', h, fun _ => rfl, fun _ => by simp only [am_one, show Nat.blt (j.val + 1) M.2.1.1 = true from g4, cond_true, am_φ, am_pushL]; rfl, g5, hI, ab_Fr_refl, g6⟩
theorem ab_t_astore {j : Nat} (hI : ab_Inv (ab_hi T) h) (hF : ab_gF F ls st h) (ht : ab_stL M F j false (fun V => Nat.beq V.1 4) = some (F', E)) : ab_Ok T md G M (pc, len, .astore j, an, z) ls st h nc ns F' E := by
  obtain ⟨V, v, st', rfl, g2, g3, g4, g5, g6⟩ := ab_stL_ok hF ht
  obtain ⟨x, rfl, -⟩ := ab_g4 g3 g2
  exact ⟨_, st', h, fun _ => rfl, fun _ => by simp only [am_one, show Nat.blt j M.2.1.1 = true from g4, cond_true]; rfl, g5, hI, ab_Fr_refl, g6⟩
theorem ab_t_astore_n {j : Fin 4} (hI : ab_Inv (ab_hi T) h) (hF : ab_gF F ls st h) (ht : ab_stL M F j.val false (fun V => Nat.beq V.1 4) = some (F', E)) : ab_Ok T md G M (pc, len, .astore_n j, an, z) ls st h nc ns F' E := by
  obtain ⟨V, v, st', rfl, g2, g3, g4, g5, g6⟩ := ab_stL_ok hF ht
  obtain ⟨x, rfl, -⟩ := ab_g4 g3 g2
  exact ⟨_, st', h, fun _ => rfl, fun _ => by simp only [am_one, show Nat.blt j.val M.2.1.1 = true from g4, cond_true]; rfl, g5, hI, ab_Fr_refl, g6⟩
/-! two numbers -/
theorem ab_t_iadd (hI : ab_Inv (ab_hi T) h) (hF : ab_gF F ls st h) (ht : ab_two F (fun a b => some (ab_add a b)) = some (F', E)) : ab_Ok T md G M (pc, len, .iadd, an, z) ls st h nc ns F' E := by
  obtain ⟨a, b, e, es, x, y, st', rfl, g1, g2, g3, g4, g5, g6, rfl, rfl⟩ := ab_two_ok hF ht
  cases g5
  exact ab_Ok_st (st' := .int (x + y) :: st') hI hF ⟨ab_add_ok g1 g2 g3 g4, g6⟩ (fun _ => rfl) (fun _ => by simp only [am_one])
theorem ab_t_isub (hI : ab_Inv (ab_hi T) h) (hF : ab_gF F ls st h) (ht : ab_two F (fun a b => some (ab_sub a b)) = some (F', E)) : ab_Ok T md G M (pc, len, .isub, an, z) ls st h nc ns F' E := by
  obtain ⟨a, b, e, es, x, y, st', rfl, g1, g2, g3, g4, g5, g6, rfl, rfl⟩ := ab_two_ok hF ht
  cases g5
  exact ab_Ok_st (st' := .int (x - y) :: st') hI hF ⟨ab_sub_ok g1 g2 g3 g4, g6⟩ (fun _ => rfl) (fun _ => by simp only [am_one])
theorem ab_t_imul (hI : ab_Inv (ab_hi T) h) (hF : ab_gF F ls st h) (ht : ab_two F (fun a b => some (ab_n (ab_mul a.1 b.1))) = some (F', E)) : ab_Ok T md G M (pc, len, .imul, an, z) ls st h nc ns F' E := by
  obtain ⟨a, b, e, es, x, y, st', rfl, g1, g2, g3, g4, g5, g6, rfl, rfl⟩ := ab_two_ok hF ht
  cases g5
  obtain ⟨x', e1, l1, u1⟩ := ab_g0 g3 g1.1
  cases e1
  obtain ⟨y', e2, l2, u2⟩ := ab_g0 g4 g2.1
  cases e2
  exact ab_Ok_st (st' := .int (x * y) :: st') hI hF ⟨ab_n_ok (ab_mul_ok l1 u1 l2 u2), g6⟩ (fun _ => rfl) (fun _ => by simp only [am_one])
end ABO
