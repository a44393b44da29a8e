set_option maxHeartbeats 400000
/-! ===== SECONDS OF THE MODEL, WITH FULL (wip/r/gen99sl.py) ===== -/
/-- what the leak of a bed loses: realAs, real, noLeak, leaks, patched -/
def leM (ra re nl ls pt : Int32) (lo : Nat → Int32) : Int32 := if ¬ nl = 0 ∨ (if 0 ≤ ra.toInt then ra else re).toInt < 0 ∨ ls.toInt ≤ (if 0 ≤ ra.toInt then ra else re).toInt ∨ ((pt >>> ((if 0 ≤ ra.toInt then ra else re) &&& 31)) &&& 1).toInt = 1 then 0 else lo (if 0 ≤ ra.toInt then ra else re).toNatClampNeg
/-- what stays in the model behind a law -/
def mk (g g' : am_H) : Prop := ∀ o q, ¬ (o = 164 ∧ q = 49) → ¬ o = 187 → ¬ o = 186 → g' o q = g o q
theorem mk_r {g : am_H} : mk g g := fun _ _ _ _ _ => rfl
theorem mk_t {g g' g'' : am_H} (a : mk g g') (b : mk g' g'') : mk g g'' := fun o q e f h => (b o q e f h).trans (a o q e f h)
theorem mk_v {g g' : am_H} {o q : Nat} (a : mk g g') (e : ¬ (o = 164 ∧ q = 49)) (f : ¬ o = 187) (h : ¬ o = 186) : rg_v g' o q = rg_v g o q := lw_v (a o q e f h)
theorem LW_m {p : Nat} {h g g' : am_H} (a : mk g g') (L : LW p h g) : LW p h g' := LW_e (fun _ _ _ _ => rfl) (fun o q e => mk_v a (by unfold lwQ at e; omega) (by unfold lwQ at e; omega) (by unfold lwQ at e; omega)) L
theorem lk_201 {n : Nat} {r : Option Value} {g g' : am_H} {ra re nl ls pt : Int32} (eRa : rg_v g 164 62 = ra) (eRe : rg_v g 164 58 = re) (eNl : rg_v g 164 60 = nl) (eLs : rg_v g 164 14 = ls) (ePt : rg_v g 164 57 = pt) (hm_z : rn n am_m201 0 (lv_args 0 [.ref 164]) [] g r g') : g' = g ∧ r = some (.int (leM ra re nl ls pt (fun q => rg_v g 174 q))) := by
  have z0_z : (0 : Int32).toInt = 0 := by decide
  have z1_z : (1 : Int32).toInt = 1 := by decide
  have g0_z : am_get (lv_args 0 [.ref 164]) 0 = some (.ref 164) := rfl
  replace hm_z := rn_aload_n (am_cur_of (i := (0, 1, .aload_n 0, (0, 0, 0), 0)) (by decide +kernel)) g0_z hm_z
  replace hm_z := rn_getI (v := ra) (am_cur_of (i := (1, 3, .getfield 106, (12, 62, 1446), 0)) (by decide +kernel)) (by decide +kernel) eRa hm_z
  replace hm_z := rn_if (am_cur_of (i := (4, 3, .ifCond .lt 10, (6, 0, 0), 0)) (by decide +kernel)) hm_z
  rcases hm_z with ⟨b227_z, hm_z⟩ | ⟨b227_z, hm_z⟩
  · replace b227_z : ra.toInt < (0 : Int32).toInt := b227_z
    replace hm_z := rn_aload_n (am_cur_of (i := (14, 1, .aload_n 0, (0, 0, 0), 0)) (by decide +kernel)) g0_z hm_z
    replace hm_z := rn_getI (v := re) (am_cur_of (i := (15, 3, .getfield 362, (12, 58, 1442), 0)) (by decide +kernel)) (by decide +kernel) eRe hm_z
    replace hm_z := rn_istore_n (am_cur_of (i := (18, 1, .istore_n 1, (0, 0, 0), 0)) (by decide +kernel)) hm_z
    obtain ⟨_, s228_z, s229_z, g1_z, hm_z⟩ := hm_z
    replace g0_z := s228_z 0 _ (by decide) rfl g0_z
    clear s228_z s229_z
    replace hm_z := rn_aload_n (am_cur_of (i := (19, 1, .aload_n 0, (0, 0, 0), 0)) (by decide +kernel)) g0_z hm_z
    replace hm_z := rn_getI (v := nl) (am_cur_of (i := (20, 3, .getfield 352, (12, 60, 1444), 0)) (by decide +kernel)) (by decide +kernel) eNl hm_z
    replace hm_z := rn_if (am_cur_of (i := (23, 3, .ifCond .ne 26, (23, 0, 0), 0)) (by decide +kernel)) hm_z
    rcases hm_z with ⟨b230_z, hm_z⟩ | ⟨b230_z, hm_z⟩
    · replace b230_z : ¬ nl = (0 : Int32) ∧ ¬ nl.toInt = (0 : Int32).toInt := b230_z
      replace hm_z := rn_iconst (w := 0) (am_cur_of (i := (49, 1, .iconst 0, (0, 0, 0), 0)) (by decide +kernel)) (by decide) hm_z
      replace hm_z := rn_goto (am_cur_of (i := (50, 3, .goto 9, (29, 0, 0), 0)) (by decide +kernel)) hm_z
      replace hm_z := rn_iret (am_cur_of (i := (59, 1, .ireturn, (0, 0, 0), 0)) (by decide +kernel)) hm_z
      obtain ⟨e231_z, e232_z⟩ := hm_z
      refine ⟨e232_z, ?_⟩
      rw [e231_z]
      unfold leM
      rw [if_neg (c := 0 ≤ ra.toInt) (by omega)]
      rw [if_pos (Or.inl b230_z.1)]
    · replace b230_z : nl = (0 : Int32) ∧ nl.toInt = (0 : Int32).toInt := b230_z
      replace hm_z := rn_iload_n (am_cur_of (i := (26, 1, .iload_n 1, (0, 0, 0), 0)) (by decide +kernel)) g1_z hm_z
      replace hm_z := rn_if (am_cur_of (i := (27, 3, .ifCond .lt 22, (23, 0, 0), 0)) (by decide +kernel)) hm_z
      rcases hm_z with ⟨b233_z, hm_z⟩ | ⟨b233_z, hm_z⟩
      · replace b233_z : re.toInt < (0 : Int32).toInt := b233_z
        replace hm_z := rn_iconst (w := 0) (am_cur_of (i := (49, 1, .iconst 0, (0, 0, 0), 0)) (by decide +kernel)) (by decide) hm_z
        replace hm_z := rn_goto (am_cur_of (i := (50, 3, .goto 9, (29, 0, 0), 0)) (by decide +kernel)) hm_z
        replace hm_z := rn_iret (am_cur_of (i := (59, 1, .ireturn, (0, 0, 0), 0)) (by decide +kernel)) hm_z
        obtain ⟨e234_z, e235_z⟩ := hm_z
        refine ⟨e235_z, ?_⟩
        rw [e234_z]
        unfold leM
        rw [if_neg (c := 0 ≤ ra.toInt) (by omega)]
        rw [if_pos (Or.inr (Or.inl (by omega)))]
      · replace b233_z : (0 : Int32).toInt ≤ re.toInt := b233_z
        replace hm_z := rn_iload_n (am_cur_of (i := (30, 1, .iload_n 1, (0, 0, 0), 0)) (by decide +kernel)) g1_z hm_z
        replace hm_z := rn_aload_n (am_cur_of (i := (31, 1, .aload_n 0, (0, 0, 0), 0)) (by decide +kernel)) g0_z hm_z
        replace hm_z := rn_getI (v := ls) (am_cur_of (i := (32, 3, .getfield 225, (12, 14, 1398), 0)) (by decide +kernel)) (by decide +kernel) eLs hm_z
        replace hm_z := rn_cmp (am_cur_of (i := (35, 3, .if_icmp .ge 14, (23, 0, 0), 0)) (by decide +kernel)) hm_z
        rcases hm_z with ⟨b236_z, hm_z⟩ | ⟨b236_z, hm_z⟩
        · replace b236_z : ls.toInt ≤ re.toInt := b236_z
          replace hm_z := rn_iconst (w := 0) (am_cur_of (i := (49, 1, .iconst 0, (0, 0, 0), 0)) (by decide +kernel)) (by decide) hm_z
          replace hm_z := rn_goto (am_cur_of (i := (50, 3, .goto 9, (29, 0, 0), 0)) (by decide +kernel)) hm_z
          replace hm_z := rn_iret (am_cur_of (i := (59, 1, .ireturn, (0, 0, 0), 0)) (by decide +kernel)) hm_z
          obtain ⟨e237_z, e238_z⟩ := hm_z
          refine ⟨e238_z, ?_⟩
          rw [e237_z]
          unfold leM
          rw [if_neg (c := 0 ≤ ra.toInt) (by omega)]
          rw [if_pos (Or.inr (Or.inr (Or.inl (by omega))))]
        · replace b236_z : re.toInt < ls.toInt := b236_z
          replace hm_z := rn_aload_n (am_cur_of (i := (38, 1, .aload_n 0, (0, 0, 0), 0)) (by decide +kernel)) g0_z hm_z
          replace hm_z := rn_getI (v := pt) (am_cur_of (i := (39, 3, .getfield 349, (12, 57, 1441), 0)) (by decide +kernel)) (by decide +kernel) ePt hm_z
          replace hm_z := rn_iload_n (am_cur_of (i := (42, 1, .iload_n 1, (0, 0, 0), 0)) (by decide +kernel)) g1_z hm_z
          replace hm_z := rn_callS (M' := am_m202) (ar := [.int re, .int pt]) (rest := []) (L := lv_args 0 [.int pt, .int re]) (am_cur_of (i := (43, 3, .invokestatic 400, (202, 1840, 3), 0)) (by decide +kernel)) rfl rfl rfl rfl hm_z
          obtain ⟨r239_z, h240_z, q241_z, hm_z⟩ := hm_z
          rcases mf_202 q241_z with ⟨n1_z, rr, hh⟩ | ⟨n1_z, rr, hh⟩
          · replace hh := hh.symm
            subst rr
            subst hh
            replace hm_z : rn _ _ _ _ [.int 0] _ _ _ := hm_z
            replace hm_z := rn_ifT (am_cur_of (i := (46, 3, .ifCond .eq 7, (25, 0, 0), 0)) (by decide +kernel)) (by decide) hm_z
            replace hm_z := rn_aload_n (am_cur_of (i := (53, 1, .aload_n 0, (0, 0, 0), 0)) (by decide +kernel)) g0_z hm_z
            replace hm_z := rn_getR (x := 174) (am_cur_of (i := (54, 3, .getfield 42, (12, 29, 1413), 0)) (by decide +kernel)) (by decide +kernel) hm_z
            replace hm_z := rn_iload_n (am_cur_of (i := (57, 1, .iload_n 1, (0, 0, 0), 0)) (by decide +kernel)) g1_z hm_z
            replace hm_z := rn_iaload (N := 12) (q := re.toNatClampNeg) (v := rg_v g 174 re.toNatClampNeg) (am_cur_of (i := (58, 1, .iaload, (0, 0, 0), 0)) (by decide +kernel)) (by decide +kernel) rfl rfl hm_z
            obtain ⟨p242_z, hm_z⟩ := hm_z
            replace hm_z := rn_iret (am_cur_of (i := (59, 1, .ireturn, (0, 0, 0), 0)) (by decide +kernel)) hm_z
            obtain ⟨e243_z, e244_z⟩ := hm_z
            refine ⟨e244_z, ?_⟩
            rw [e243_z]
            unfold leM
            rw [if_neg (c := 0 ≤ ra.toInt) (by omega)]
            rw [if_neg (by
              rintro (z | z | z | z)
              · exact z b230_z.1
              · omega
              · omega
              · omega)]
          · replace hh := hh.symm
            subst rr
            subst hh
            replace hm_z : rn _ _ _ _ [.int 1] _ _ _ := hm_z
            replace hm_z := rn_ifF (am_cur_of (i := (46, 3, .ifCond .eq 7, (25, 0, 0), 0)) (by decide +kernel)) (by decide) hm_z
            replace hm_z := rn_iconst (w := 0) (am_cur_of (i := (49, 1, .iconst 0, (0, 0, 0), 0)) (by decide +kernel)) (by decide) hm_z
            replace hm_z := rn_goto (am_cur_of (i := (50, 3, .goto 9, (29, 0, 0), 0)) (by decide +kernel)) hm_z
            replace hm_z := rn_iret (am_cur_of (i := (59, 1, .ireturn, (0, 0, 0), 0)) (by decide +kernel)) hm_z
            obtain ⟨e245_z, e246_z⟩ := hm_z
            refine ⟨e246_z, ?_⟩
            rw [e245_z]
            unfold leM
            rw [if_neg (c := 0 ≤ ra.toInt) (by omega)]
            rw [if_pos (Or.inr (Or.inr (Or.inr (by omega))))]
  · replace b227_z : (0 : Int32).toInt ≤ ra.toInt := b227_z
    replace hm_z := rn_aload_n (am_cur_of (i := (7, 1, .aload_n 0, (0, 0, 0), 0)) (by decide +kernel)) g0_z hm_z
    replace hm_z := rn_getI (v := ra) (am_cur_of (i := (8, 3, .getfield 106, (12, 62, 1446), 0)) (by decide +kernel)) (by decide +kernel) eRa hm_z
    replace hm_z := rn_goto (am_cur_of (i := (11, 3, .goto 7, (8, 0, 0), 0)) (by decide +kernel)) hm_z
    replace hm_z := rn_istore_n (am_cur_of (i := (18, 1, .istore_n 1, (0, 0, 0), 0)) (by decide +kernel)) hm_z
    obtain ⟨_, s247_z, s248_z, g1_z, hm_z⟩ := hm_z
    replace g0_z := s247_z 0 _ (by decide) rfl g0_z
    clear s247_z s248_z
    replace hm_z := rn_aload_n (am_cur_of (i := (19, 1, .aload_n 0, (0, 0, 0), 0)) (by decide +kernel)) g0_z hm_z
    replace hm_z := rn_getI (v := nl) (am_cur_of (i := (20, 3, .getfield 352, (12, 60, 1444), 0)) (by decide +kernel)) (by decide +kernel) eNl hm_z
    replace hm_z := rn_if (am_cur_of (i := (23, 3, .ifCond .ne 26, (23, 0, 0), 0)) (by decide +kernel)) hm_z
    rcases hm_z with ⟨b249_z, hm_z⟩ | ⟨b249_z, hm_z⟩
    · replace b249_z : ¬ nl = (0 : Int32) ∧ ¬ nl.toInt = (0 : Int32).toInt := b249_z
      replace hm_z := rn_iconst (w := 0) (am_cur_of (i := (49, 1, .iconst 0, (0, 0, 0), 0)) (by decide +kernel)) (by decide) hm_z
      replace hm_z := rn_goto (am_cur_of (i := (50, 3, .goto 9, (29, 0, 0), 0)) (by decide +kernel)) hm_z
      replace hm_z := rn_iret (am_cur_of (i := (59, 1, .ireturn, (0, 0, 0), 0)) (by decide +kernel)) hm_z
      obtain ⟨e250_z, e251_z⟩ := hm_z
      refine ⟨e251_z, ?_⟩
      rw [e250_z]
      unfold leM
      rw [if_pos (c := 0 ≤ ra.toInt) (by omega)]
      rw [if_pos (Or.inl b249_z.1)]
    · replace b249_z : nl = (0 : Int32) ∧ nl.toInt = (0 : Int32).toInt := b249_z
      replace hm_z := rn_iload_n (am_cur_of (i := (26, 1, .iload_n 1, (0, 0, 0), 0)) (by decide +kernel)) g1_z hm_z
      replace hm_z := rn_if (am_cur_of (i := (27, 3, .ifCond .lt 22, (23, 0, 0), 0)) (by decide +kernel)) hm_z
      rcases hm_z with ⟨b252_z, hm_z⟩ | ⟨b252_z, hm_z⟩
      · replace b252_z : ra.toInt < (0 : Int32).toInt := b252_z
        replace hm_z := rn_iconst (w := 0) (am_cur_of (i := (49, 1, .iconst 0, (0, 0, 0), 0)) (by decide +kernel)) (by decide) hm_z
        replace hm_z := rn_goto (am_cur_of (i := (50, 3, .goto 9, (29, 0, 0), 0)) (by decide +kernel)) hm_z
        replace hm_z := rn_iret (am_cur_of (i := (59, 1, .ireturn, (0, 0, 0), 0)) (by decide +kernel)) hm_z
        obtain ⟨e253_z, e254_z⟩ := hm_z
        refine ⟨e254_z, ?_⟩
        rw [e253_z]
        unfold leM
        rw [if_pos (c := 0 ≤ ra.toInt) (by omega)]
        rw [if_pos (Or.inr (Or.inl (by omega)))]
      · replace b252_z : (0 : Int32).toInt ≤ ra.toInt := b252_z
        replace hm_z := rn_iload_n (am_cur_of (i := (30, 1, .iload_n 1, (0, 0, 0), 0)) (by decide +kernel)) g1_z hm_z
        replace hm_z := rn_aload_n (am_cur_of (i := (31, 1, .aload_n 0, (0, 0, 0), 0)) (by decide +kernel)) g0_z hm_z
        replace hm_z := rn_getI (v := ls) (am_cur_of (i := (32, 3, .getfield 225, (12, 14, 1398), 0)) (by decide +kernel)) (by decide +kernel) eLs hm_z
        replace hm_z := rn_cmp (am_cur_of (i := (35, 3, .if_icmp .ge 14, (23, 0, 0), 0)) (by decide +kernel)) hm_z
        rcases hm_z with ⟨b255_z, hm_z⟩ | ⟨b255_z, hm_z⟩
        · replace b255_z : ls.toInt ≤ ra.toInt := b255_z
          replace hm_z := rn_iconst (w := 0) (am_cur_of (i := (49, 1, .iconst 0, (0, 0, 0), 0)) (by decide +kernel)) (by decide) hm_z
          replace hm_z := rn_goto (am_cur_of (i := (50, 3, .goto 9, (29, 0, 0), 0)) (by decide +kernel)) hm_z
          replace hm_z := rn_iret (am_cur_of (i := (59, 1, .ireturn, (0, 0, 0), 0)) (by decide +kernel)) hm_z
          obtain ⟨e256_z, e257_z⟩ := hm_z
          refine ⟨e257_z, ?_⟩
          rw [e256_z]
          unfold leM
          rw [if_pos (c := 0 ≤ ra.toInt) (by omega)]
          rw [if_pos (Or.inr (Or.inr (Or.inl (by omega))))]
        · replace b255_z : ra.toInt < ls.toInt := b255_z
          replace hm_z := rn_aload_n (am_cur_of (i := (38, 1, .aload_n 0, (0, 0, 0), 0)) (by decide +kernel)) g0_z hm_z
          replace hm_z := rn_getI (v := pt) (am_cur_of (i := (39, 3, .getfield 349, (12, 57, 1441), 0)) (by decide +kernel)) (by decide +kernel) ePt hm_z
          replace hm_z := rn_iload_n (am_cur_of (i := (42, 1, .iload_n 1, (0, 0, 0), 0)) (by decide +kernel)) g1_z hm_z
          replace hm_z := rn_callS (M' := am_m202) (ar := [.int ra, .int pt]) (rest := []) (L := lv_args 0 [.int pt, .int ra]) (am_cur_of (i := (43, 3, .invokestatic 400, (202, 1840, 3), 0)) (by decide +kernel)) rfl rfl rfl rfl hm_z
          obtain ⟨r258_z, h259_z, q260_z, hm_z⟩ := hm_z
          rcases mf_202 q260_z with ⟨n1_z, rr, hh⟩ | ⟨n1_z, rr, hh⟩
          · replace hh := hh.symm
            subst rr
            subst hh
            replace hm_z : rn _ _ _ _ [.int 0] _ _ _ := hm_z
            replace hm_z := rn_ifT (am_cur_of (i := (46, 3, .ifCond .eq 7, (25, 0, 0), 0)) (by decide +kernel)) (by decide) hm_z
            replace hm_z := rn_aload_n (am_cur_of (i := (53, 1, .aload_n 0, (0, 0, 0), 0)) (by decide +kernel)) g0_z hm_z
            replace hm_z := rn_getR (x := 174) (am_cur_of (i := (54, 3, .getfield 42, (12, 29, 1413), 0)) (by decide +kernel)) (by decide +kernel) hm_z
            replace hm_z := rn_iload_n (am_cur_of (i := (57, 1, .iload_n 1, (0, 0, 0), 0)) (by decide +kernel)) g1_z hm_z
            replace hm_z := rn_iaload (N := 12) (q := ra.toNatClampNeg) (v := rg_v g 174 ra.toNatClampNeg) (am_cur_of (i := (58, 1, .iaload, (0, 0, 0), 0)) (by decide +kernel)) (by decide +kernel) rfl rfl hm_z
            obtain ⟨p261_z, hm_z⟩ := hm_z
            replace hm_z := rn_iret (am_cur_of (i := (59, 1, .ireturn, (0, 0, 0), 0)) (by decide +kernel)) hm_z
            obtain ⟨e262_z, e263_z⟩ := hm_z
            refine ⟨e263_z, ?_⟩
            rw [e262_z]
            unfold leM
            rw [if_pos (c := 0 ≤ ra.toInt) (by omega)]
            rw [if_neg (by
              rintro (z | z | z | z)
              · exact z b249_z.1
              · omega
              · omega
              · omega)]
          · replace hh := hh.symm
            subst rr
            subst hh
            replace hm_z : rn _ _ _ _ [.int 1] _ _ _ := hm_z
            replace hm_z := rn_ifF (am_cur_of (i := (46, 3, .ifCond .eq 7, (25, 0, 0), 0)) (by decide +kernel)) (by decide) hm_z
            replace hm_z := rn_iconst (w := 0) (am_cur_of (i := (49, 1, .iconst 0, (0, 0, 0), 0)) (by decide +kernel)) (by decide) hm_z
            replace hm_z := rn_goto (am_cur_of (i := (50, 3, .goto 9, (29, 0, 0), 0)) (by decide +kernel)) hm_z
            replace hm_z := rn_iret (am_cur_of (i := (59, 1, .ireturn, (0, 0, 0), 0)) (by decide +kernel)) hm_z
            obtain ⟨e264_z, e265_z⟩ := hm_z
            refine ⟨e265_z, ?_⟩
            rw [e264_z]
            unfold leM
            rw [if_pos (c := 0 ≤ ra.toInt) (by omega)]
            rw [if_pos (Or.inr (Or.inr (Or.inr (by omega))))]
theorem fn_200_0 {n p : Nat} {r : Option Value} {h0_z g g' : am_H} {bd pm F S Hd pf U ra re nl ls pt mo : Int32} (hL : LW p h0_z g) (eF : rg_v g 188 bd.toNatClampNeg = F) (eS : rg_v g 189 bd.toNatClampNeg = S) (eH : rg_v g 168 0 = Hd) (ePf : rg_v g 168 2 = pf) (eU : rg_v g 164 61 = U) (eRa : rg_v g 164 62 = ra) (eRe : rg_v g 164 58 = re) (eNl : rg_v g 164 60 = nl) (eLs : rg_v g 164 14 = ls) (ePt : rg_v g 164 57 = pt) (emo : leM ra re nl ls pt (fun q => rg_v g 174 q) = mo) (H0 : 0 ≤ Hd.toInt) (H9 : Hd.toInt ≤ 9999) (p0_z : 0 ≤ pf.toInt) (p9_z : pf.toInt ≤ 9999) (m0_z : 0 ≤ mo.toInt) (m9_z : mo.toInt ≤ 999) (F0 : 0 ≤ F.toInt) (F9 : F.toInt ≤ 99999) (hm_z : rn n am_m200 0 (lv_args 0 [.ref 164, .int bd, .int 0, .int pm]) [] g r g') : ∃ x : Int32, r = some (.int x) ∧ x.toInt = secZ p h0_z U Hd pm pf mo 0 F S ∧ mk g g' := by
  have z0_z : (0 : Int32).toInt = 0 := by decide
  have z20_z : (20 : Int32).toInt = 20 := by decide
  have z999_z : (999 : Int32).toInt = 999 := by decide
  have k0_z : (0 : Int32).toNatClampNeg = 0 := by decide
  have g0_z : am_get (lv_args 0 [.ref 164, .int bd, .int 0, .int pm]) 0 = some (.ref 164) := rfl
  have g1_z : am_get (lv_args 0 [.ref 164, .int bd, .int 0, .int pm]) 1 = some (.int bd) := rfl
  have g2_z : am_get (lv_args 0 [.ref 164, .int bd, .int 0, .int pm]) 2 = some (.int 0) := rfl
  have g3_z : am_get (lv_args 0 [.ref 164, .int bd, .int 0, .int pm]) 3 = some (.int pm) := rfl
  replace hm_z := rn_iload_n (am_cur_of (i := (0, 1, .iload_n 2, (0, 0, 0), 0)) (by decide +kernel)) g2_z hm_z
  replace hm_z := rn_ifT (am_cur_of (i := (1, 3, .ifCond .eq 7, (4, 0, 0), 0)) (by decide +kernel)) (by decide) hm_z
  replace hm_z := rn_iconst (w := 0) (am_cur_of (i := (8, 1, .iconst 0, (0, 0, 0), 0)) (by decide +kernel)) (by decide) hm_z
  replace hm_z := rn_istore (am_cur_of (i := (9, 2, .istore 4, (0, 0, 0), 0)) (by decide +kernel)) hm_z
  obtain ⟨_, s266_z, s267_z, g4_z, hm_z⟩ := hm_z
  replace g0_z := s266_z 0 _ (by decide) rfl g0_z
  replace g1_z := s266_z 1 _ (by decide) rfl g1_z
  replace g2_z := s266_z 2 _ (by decide) rfl g2_z
  replace g3_z := s266_z 3 _ (by decide) rfl g3_z
  clear s266_z s267_z
  replace hm_z := rn_aload_n (am_cur_of (i := (11, 1, .aload_n 0, (0, 0, 0), 0)) (by decide +kernel)) g0_z hm_z
  replace hm_z := rn_iload_n (am_cur_of (i := (12, 1, .iload_n 1, (0, 0, 0), 0)) (by decide +kernel)) g1_z hm_z
  replace hm_z := rn_iload (am_cur_of (i := (13, 2, .iload 4, (0, 0, 0), 0)) (by decide +kernel)) g4_z hm_z
  replace hm_z := rn_callV (M' := am_m188) (o := 164) (ar := [.int 0, .int bd]) (rest := []) (L := lv_args 0 [.ref 164, .int bd, .int 0]) (am_cur_of (i := (15, 3, .invokevirtual 403, (188, 1783, 3), 0)) (by decide +kernel)) rfl rfl rfl rfl hm_z
  obtain ⟨r268_z, h269_z, q270_z, hm_z⟩ := hm_z
  obtain ⟨l, rr, le, lf⟩ := lo_188 hL eF eS eH eU q270_z
  subst rr
  have el := ldX_e le
  have k1_z : mk g h269_z := lf
  have eF1 := (mk_v (o := 188) (q := bd.toNatClampNeg) k1_z (by omega) (by decide) (by decide)).trans eF
  have eS1 := (mk_v (o := 189) (q := bd.toNatClampNeg) k1_z (by omega) (by decide) (by decide)).trans eS
  have eH1 := (mk_v (o := 168) (q := 0) k1_z (by omega) (by decide) (by decide)).trans eH
  replace hm_z : rn _ _ _ _ [.int l] _ _ _ := hm_z
  replace hm_z := rn_istore (am_cur_of (i := (18, 2, .istore 5, (0, 0, 0), 0)) (by decide +kernel)) hm_z
  obtain ⟨_, s271_z, s272_z, g5_z, hm_z⟩ := hm_z
  replace g0_z := s271_z 0 _ (by decide) rfl g0_z
  replace g1_z := s271_z 1 _ (by decide) rfl g1_z
  replace g2_z := s271_z 2 _ (by decide) rfl g2_z
  replace g3_z := s271_z 3 _ (by decide) rfl g3_z
  replace g4_z := s271_z 4 _ (by decide) rfl g4_z
  clear s271_z s272_z
  replace hm_z := rn_aload_n (am_cur_of (i := (20, 1, .aload_n 0, (0, 0, 0), 0)) (by decide +kernel)) g0_z hm_z
  replace hm_z := rn_iload_n (am_cur_of (i := (21, 1, .iload_n 1, (0, 0, 0), 0)) (by decide +kernel)) g1_z hm_z
  replace hm_z := rn_iload (am_cur_of (i := (22, 2, .iload 4, (0, 0, 0), 0)) (by decide +kernel)) g4_z hm_z
  replace hm_z := rn_iload (am_cur_of (i := (24, 2, .iload 5, (0, 0, 0), 0)) (by decide +kernel)) g5_z hm_z
  replace hm_z := rn_iconst (w := 0) (am_cur_of (i := (26, 1, .iconst 0, (0, 0, 0), 0)) (by decide +kernel)) (by decide) hm_z
  replace hm_z := rn_callV (M' := am_m189) (o := 164) (ar := [.int 0, .int l, .int 0, .int bd]) (rest := []) (L := lv_args 0 [.ref 164, .int bd, .int 0, .int l, .int 0]) (am_cur_of (i := (27, 3, .invokevirtual 392, (189, 1787, 3), 0)) (by decide +kernel)) rfl rfl rfl rfl hm_z
  obtain ⟨r273_z, h274_z, q275_z, hm_z⟩ := hm_z
  have vo := rn_void rfl q275_z
  subst vo
  obtain ⟨yf, yn⟩ := ly_189 eF1 eS1 eH1 q275_z
  have k2_z : mk g h274_z := mk_t k1_z (fun o q _ _ c => yf o q c)
  have eF2 := (mk_v (o := 188) (q := bd.toNatClampNeg) k2_z (by omega) (by decide) (by decide)).trans eF
  obtain ⟨n1_z, n2_z, n3_z⟩ := nm_al yn
  replace hm_z : rn _ _ _ _ [] _ _ _ := hm_z
  replace hm_z := rn_aload_n (am_cur_of (i := (30, 1, .aload_n 0, (0, 0, 0), 0)) (by decide +kernel)) g0_z hm_z
  replace hm_z := rn_getR (x := 188) (am_cur_of (i := (31, 3, .getfield 85, (12, 50, 1434), 0)) (by decide +kernel)) (by decide +kernel) hm_z
  replace hm_z := rn_iload_n (am_cur_of (i := (34, 1, .iload_n 1, (0, 0, 0), 0)) (by decide +kernel)) g1_z hm_z
  replace hm_z := rn_iaload (N := 4) (q := bd.toNatClampNeg) (v := F) (am_cur_of (i := (35, 1, .iaload, (0, 0, 0), 0)) (by decide +kernel)) (by decide +kernel) rfl eF2 hm_z
  obtain ⟨p276_z, hm_z⟩ := hm_z
  replace hm_z := rn_aload_n (am_cur_of (i := (36, 1, .aload_n 0, (0, 0, 0), 0)) (by decide +kernel)) g0_z hm_z
  replace hm_z := rn_iconst (w := 0) (am_cur_of (i := (37, 1, .iconst 0, (0, 0, 0), 0)) (by decide +kernel)) (by decide) hm_z
  replace hm_z := rn_aload_n (am_cur_of (i := (38, 1, .aload_n 0, (0, 0, 0), 0)) (by decide +kernel)) g0_z hm_z
  replace hm_z := rn_getR (x := 188) (am_cur_of (i := (39, 3, .getfield 85, (12, 50, 1434), 0)) (by decide +kernel)) (by decide +kernel) hm_z
  replace hm_z := rn_iload_n (am_cur_of (i := (42, 1, .iload_n 1, (0, 0, 0), 0)) (by decide +kernel)) g1_z hm_z
  replace hm_z := rn_iaload (N := 4) (q := bd.toNatClampNeg) (v := F) (am_cur_of (i := (43, 1, .iaload, (0, 0, 0), 0)) (by decide +kernel)) (by decide +kernel) rfl eF2 hm_z
  obtain ⟨p277_z, hm_z⟩ := hm_z
  replace hm_z := rn_bipush (w := 100) (am_cur_of (i := (44, 2, .bipush 100, (0, 0, 0), 0)) (by decide +kernel)) (by decide) hm_z
  replace hm_z := rn_idiv (w := F / 100) (am_cur_of (i := (46, 1, .idiv, (0, 0, 0), 0)) (by decide +kernel)) rfl hm_z
  obtain ⟨d278_z, hm_z⟩ := hm_z
  replace hm_z := rn_bipush (w := 20) (am_cur_of (i := (47, 2, .bipush 20, (0, 0, 0), 0)) (by decide +kernel)) (by decide) hm_z
  replace hm_z := rn_iload (am_cur_of (i := (49, 2, .iload 4, (0, 0, 0), 0)) (by decide +kernel)) g4_z hm_z
  replace hm_z := rn_imul (w := 0) (am_cur_of (i := (51, 1, .imul, (0, 0, 0), 0)) (by decide +kernel)) (by decide) hm_z
  replace hm_z := rn_iadd (w := (F / 100) + 0) (am_cur_of (i := (52, 1, .iadd, (0, 0, 0), 0)) (by decide +kernel)) rfl hm_z
  replace hm_z := rn_sipush (w := 999) (am_cur_of (i := (53, 3, .sipush 999, (0, 0, 0), 0)) (by decide +kernel)) (by decide) hm_z
  replace hm_z := rn_callV (M' := am_m190) (o := 164) (ar := [.int 999, .int ((F / 100) + 0), .int 0]) (rest := [.int F]) (L := lv_args 0 [.ref 164, .int 0, .int ((F / 100) + 0), .int 999]) (am_cur_of (i := (56, 3, .invokevirtual 396, (190, 1791, 3), 0)) (by decide +kernel)) rfl rfl rfl rfl hm_z
  obtain ⟨r279_z, h280_z, q281_z, hm_z⟩ := hm_z
  obtain ⟨xl, rr, xe, xf⟩ := bw_190 (N := eC l F (Hd - F) 0 S 0) (by rw [k0_z]; exact LW_m k2_z hL 0 (by decide)) n1_z (Or.inr n2_z) n3_z (by decide) q281_z
  subst rr
  have k3_z : mk g h280_z := mk_t k2_z (fun o q a b _ => xf o q a b)
  have dv := dv_100 (F := F) (by omega)
  have dw := ab_iadd (x := F / 100) (y := 0) (by omega) (by omega)
  have eWo : (F / 100 + 0).toInt = F.toInt / 100 + 20 * (0 : Int32).toInt := by
    have y1_z : (1 : Int32).toInt = 1 := by decide
    have y0_z : (0 : Int32).toInt = 0 := by decide
    omega
  rw [k0_z, eWo, show (999 : Int32).toInt = 999 by decide, el] at xe
  have bw := bnd_w (q := lawX p h0_z 0 (eC (ldX p h0_z U F (Hd - F) 0 S) F (Hd - F) 0 S 0)) (wo := F.toInt / 100 + 20 * (0 : Int32).toInt) (mo := 999) (by omega) (by decide)
  rw [← xe] at bw
  have c2_z := ab_isub (x := F) (y := xl) (by omega) (by omega)
  have eRa3 := (mk_v (o := 164) (q := 62) k3_z (by omega) (by decide) (by decide)).trans eRa
  have eRe3 := (mk_v (o := 164) (q := 58) k3_z (by omega) (by decide) (by decide)).trans eRe
  have eNl3 := (mk_v (o := 164) (q := 60) k3_z (by omega) (by decide) (by decide)).trans eNl
  have eLs3 := (mk_v (o := 164) (q := 14) k3_z (by omega) (by decide) (by decide)).trans eLs
  have ePt3 := (mk_v (o := 164) (q := 57) k3_z (by omega) (by decide) (by decide)).trans ePt
  have eH3 := (mk_v (o := 168) (q := 0) k3_z (by omega) (by decide) (by decide)).trans eH
  have eP3 := (mk_v (o := 168) (q := 2) k3_z (by omega) (by decide) (by decide)).trans ePf
  replace hm_z : rn _ _ _ _ [.int xl, .int F] _ _ _ := hm_z
  replace hm_z := rn_isub (w := F - xl) (am_cur_of (i := (59, 1, .isub, (0, 0, 0), 0)) (by decide +kernel)) rfl hm_z
  replace hm_z := rn_aload_n (am_cur_of (i := (60, 1, .aload_n 0, (0, 0, 0), 0)) (by decide +kernel)) g0_z hm_z
  replace hm_z := rn_callV (M' := am_m201) (o := 164) (ar := []) (rest := [.int (F - xl)]) (L := lv_args 0 [.ref 164]) (am_cur_of (i := (61, 3, .invokevirtual 406, (201, 1836, 3), 0)) (by decide +kernel)) rfl rfl rfl rfl hm_z
  obtain ⟨r282_z, h283_z, q284_z, hm_z⟩ := hm_z
  obtain ⟨hh, rr⟩ := lk_201 eRa3 eRe3 eNl3 eLs3 ePt3 q284_z
  replace hh := hh.symm
  subst hh
  rw [show (fun q => rg_v h280_z 174 q) = (fun q => rg_v g 174 q) from funext (fun q => mk_v k3_z (by omega) (by decide) (by decide)), emo] at rr
  subst rr
  have c3_z := ab_isub (x := F - xl) (y := mo) (by omega) (by omega)
  replace hm_z : rn _ _ _ _ [.int mo, .int (F - xl)] _ _ _ := hm_z
  replace hm_z := rn_isub (w := (F - xl) - mo) (am_cur_of (i := (64, 1, .isub, (0, 0, 0), 0)) (by decide +kernel)) rfl hm_z
  replace hm_z := rn_istore (am_cur_of (i := (65, 2, .istore 6, (0, 0, 0), 0)) (by decide +kernel)) hm_z
  obtain ⟨_, s285_z, s286_z, g6_z, hm_z⟩ := hm_z
  replace g0_z := s285_z 0 _ (by decide) rfl g0_z
  replace g1_z := s285_z 1 _ (by decide) rfl g1_z
  replace g2_z := s285_z 2 _ (by decide) rfl g2_z
  replace g3_z := s285_z 3 _ (by decide) rfl g3_z
  replace g4_z := s285_z 4 _ (by decide) rfl g4_z
  replace g5_z := s285_z 5 _ (by decide) rfl g5_z
  clear s285_z s286_z
  replace hm_z := rn_iload (am_cur_of (i := (67, 2, .iload 6, (0, 0, 0), 0)) (by decide +kernel)) g6_z hm_z
  replace hm_z := rn_if (am_cur_of (i := (69, 3, .ifCond .ge 7, (44, 0, 0), 0)) (by decide +kernel)) hm_z
  rcases hm_z with ⟨b287_z, hm_z⟩ | ⟨b287_z, hm_z⟩
  · replace b287_z : (0 : Int32).toInt ≤ ((F - xl) - mo).toInt := b287_z
    replace hm_z := rn_iload (am_cur_of (i := (76, 2, .iload 6, (0, 0, 0), 0)) (by decide +kernel)) g6_z hm_z
    replace hm_z := rn_istore (am_cur_of (i := (78, 2, .istore 6, (0, 0, 0), 0)) (by decide +kernel)) hm_z
    obtain ⟨_, s288_z, s289_z, g6_z, hm_z⟩ := hm_z
    replace g0_z := s288_z 0 _ (by decide) rfl g0_z
    replace g1_z := s288_z 1 _ (by decide) rfl g1_z
    replace g2_z := s288_z 2 _ (by decide) rfl g2_z
    replace g3_z := s288_z 3 _ (by decide) rfl g3_z
    replace g4_z := s288_z 4 _ (by decide) rfl g4_z
    replace g5_z := s288_z 5 _ (by decide) rfl g5_z
    clear s288_z s289_z
    replace hm_z := rn_iload_n (am_cur_of (i := (80, 1, .iload_n 3, (0, 0, 0), 0)) (by decide +kernel)) g3_z hm_z
    replace hm_z := rn_if (am_cur_of (i := (81, 3, .ifCond .ne 6, (50, 0, 0), 0)) (by decide +kernel)) hm_z
    rcases hm_z with ⟨b290_z, hm_z⟩ | ⟨b290_z, hm_z⟩
    · replace b290_z : ¬ pm = (0 : Int32) ∧ ¬ pm.toInt = (0 : Int32).toInt := b290_z
      have c4_z := ab_iadd (x := (F - xl) - mo) (y := pf) (by omega) (by omega)
      replace hm_z := rn_iload (am_cur_of (i := (87, 2, .iload 6, (0, 0, 0), 0)) (by decide +kernel)) g6_z hm_z
      replace hm_z := rn_aload_n (am_cur_of (i := (89, 1, .aload_n 0, (0, 0, 0), 0)) (by decide +kernel)) g0_z hm_z
      replace hm_z := rn_getR (x := 168) (am_cur_of (i := (90, 3, .getfield 24, (12, 23, 1407), 0)) (by decide +kernel)) (by decide +kernel) hm_z
      replace hm_z := rn_iconst (w := 2) (am_cur_of (i := (93, 1, .iconst 2, (0, 0, 0), 0)) (by decide +kernel)) (by decide) hm_z
      replace hm_z := rn_iaload (N := 12) (q := 2) (v := pf) (am_cur_of (i := (94, 1, .iaload, (0, 0, 0), 0)) (by decide +kernel)) (by decide +kernel) rfl eP3 hm_z
      obtain ⟨p291_z, hm_z⟩ := hm_z
      replace hm_z := rn_iadd (w := ((F - xl) - mo) + pf) (am_cur_of (i := (95, 1, .iadd, (0, 0, 0), 0)) (by decide +kernel)) rfl hm_z
      replace hm_z := rn_aload_n (am_cur_of (i := (96, 1, .aload_n 0, (0, 0, 0), 0)) (by decide +kernel)) g0_z hm_z
      replace hm_z := rn_getR (x := 168) (am_cur_of (i := (97, 3, .getfield 24, (12, 23, 1407), 0)) (by decide +kernel)) (by decide +kernel) hm_z
      replace hm_z := rn_iconst (w := 0) (am_cur_of (i := (100, 1, .iconst 0, (0, 0, 0), 0)) (by decide +kernel)) (by decide) hm_z
      replace hm_z := rn_iaload (N := 12) (q := 0) (v := Hd) (am_cur_of (i := (101, 1, .iaload, (0, 0, 0), 0)) (by decide +kernel)) (by decide +kernel) rfl eH3 hm_z
      obtain ⟨p292_z, hm_z⟩ := hm_z
      replace hm_z := rn_cmp (am_cur_of (i := (102, 3, .if_icmp .le 12, (66, 0, 0), 0)) (by decide +kernel)) hm_z
      rcases hm_z with ⟨b293_z, hm_z⟩ | ⟨b293_z, hm_z⟩
      · replace b293_z : (((F - xl) - mo) + pf).toInt ≤ Hd.toInt := b293_z
        replace hm_z := rn_iload (am_cur_of (i := (114, 2, .iload 6, (0, 0, 0), 0)) (by decide +kernel)) g6_z hm_z
        replace hm_z := rn_aload_n (am_cur_of (i := (116, 1, .aload_n 0, (0, 0, 0), 0)) (by decide +kernel)) g0_z hm_z
        replace hm_z := rn_getR (x := 168) (am_cur_of (i := (117, 3, .getfield 24, (12, 23, 1407), 0)) (by decide +kernel)) (by decide +kernel) hm_z
        replace hm_z := rn_iconst (w := 2) (am_cur_of (i := (120, 1, .iconst 2, (0, 0, 0), 0)) (by decide +kernel)) (by decide) hm_z
        replace hm_z := rn_iaload (N := 12) (q := 2) (v := pf) (am_cur_of (i := (121, 1, .iaload, (0, 0, 0), 0)) (by decide +kernel)) (by decide +kernel) rfl eP3 hm_z
        obtain ⟨p294_z, hm_z⟩ := hm_z
        replace hm_z := rn_iadd (w := ((F - xl) - mo) + pf) (am_cur_of (i := (122, 1, .iadd, (0, 0, 0), 0)) (by decide +kernel)) rfl hm_z
        replace hm_z := rn_iret (am_cur_of (i := (123, 1, .ireturn, (0, 0, 0), 0)) (by decide +kernel)) hm_z
        obtain ⟨e295_z, e296_z⟩ := hm_z
        refine ⟨_, e295_z, ?_, by rw [e296_z]; exact k3_z⟩
        unfold secZ
        rw [if_neg b290_z.1, ← xe]
        omega
      · replace b293_z : Hd.toInt < (((F - xl) - mo) + pf).toInt := b293_z
        replace hm_z := rn_aload_n (am_cur_of (i := (105, 1, .aload_n 0, (0, 0, 0), 0)) (by decide +kernel)) g0_z hm_z
        replace hm_z := rn_getR (x := 168) (am_cur_of (i := (106, 3, .getfield 24, (12, 23, 1407), 0)) (by decide +kernel)) (by decide +kernel) hm_z
        replace hm_z := rn_iconst (w := 0) (am_cur_of (i := (109, 1, .iconst 0, (0, 0, 0), 0)) (by decide +kernel)) (by decide) hm_z
        replace hm_z := rn_iaload (N := 12) (q := 0) (v := Hd) (am_cur_of (i := (110, 1, .iaload, (0, 0, 0), 0)) (by decide +kernel)) (by decide +kernel) rfl eH3 hm_z
        obtain ⟨p297_z, hm_z⟩ := hm_z
        replace hm_z := rn_goto (am_cur_of (i := (111, 3, .goto 12, (72, 0, 0), 0)) (by decide +kernel)) hm_z
        replace hm_z := rn_iret (am_cur_of (i := (123, 1, .ireturn, (0, 0, 0), 0)) (by decide +kernel)) hm_z
        obtain ⟨e298_z, e299_z⟩ := hm_z
        refine ⟨_, e298_z, ?_, by rw [e299_z]; exact k3_z⟩
        unfold secZ
        rw [if_neg b290_z.1, ← xe]
        omega
    · replace b290_z : pm = (0 : Int32) ∧ pm.toInt = (0 : Int32).toInt := b290_z
      replace hm_z := rn_iload (am_cur_of (i := (84, 2, .iload 6, (0, 0, 0), 0)) (by decide +kernel)) g6_z hm_z
      replace hm_z := rn_iret (am_cur_of (i := (86, 1, .ireturn, (0, 0, 0), 0)) (by decide +kernel)) hm_z
      obtain ⟨e300_z, e301_z⟩ := hm_z
      refine ⟨_, e300_z, ?_, by rw [e301_z]; exact k3_z⟩
      unfold secZ
      rw [if_pos b290_z.1, ← xe]
      omega
  · replace b287_z : ((F - xl) - mo).toInt < (0 : Int32).toInt := b287_z
    replace hm_z := rn_iconst (w := 0) (am_cur_of (i := (72, 1, .iconst 0, (0, 0, 0), 0)) (by decide +kernel)) (by decide) hm_z
    replace hm_z := rn_goto (am_cur_of (i := (73, 3, .goto 5, (45, 0, 0), 0)) (by decide +kernel)) hm_z
    replace hm_z := rn_istore (am_cur_of (i := (78, 2, .istore 6, (0, 0, 0), 0)) (by decide +kernel)) hm_z
    obtain ⟨_, s302_z, s303_z, g6_z, hm_z⟩ := hm_z
    replace g0_z := s302_z 0 _ (by decide) rfl g0_z
    replace g1_z := s302_z 1 _ (by decide) rfl g1_z
    replace g2_z := s302_z 2 _ (by decide) rfl g2_z
    replace g3_z := s302_z 3 _ (by decide) rfl g3_z
    replace g4_z := s302_z 4 _ (by decide) rfl g4_z
    replace g5_z := s302_z 5 _ (by decide) rfl g5_z
    clear s302_z s303_z
    replace hm_z := rn_iload_n (am_cur_of (i := (80, 1, .iload_n 3, (0, 0, 0), 0)) (by decide +kernel)) g3_z hm_z
    replace hm_z := rn_if (am_cur_of (i := (81, 3, .ifCond .ne 6, (50, 0, 0), 0)) (by decide +kernel)) hm_z
    rcases hm_z with ⟨b304_z, hm_z⟩ | ⟨b304_z, hm_z⟩
    · replace b304_z : ¬ pm = (0 : Int32) ∧ ¬ pm.toInt = (0 : Int32).toInt := b304_z
      have c4_z := ab_iadd (x := 0) (y := pf) (by omega) (by omega)
      replace hm_z := rn_iload (am_cur_of (i := (87, 2, .iload 6, (0, 0, 0), 0)) (by decide +kernel)) g6_z hm_z
      replace hm_z := rn_aload_n (am_cur_of (i := (89, 1, .aload_n 0, (0, 0, 0), 0)) (by decide +kernel)) g0_z hm_z
      replace hm_z := rn_getR (x := 168) (am_cur_of (i := (90, 3, .getfield 24, (12, 23, 1407), 0)) (by decide +kernel)) (by decide +kernel) hm_z
      replace hm_z := rn_iconst (w := 2) (am_cur_of (i := (93, 1, .iconst 2, (0, 0, 0), 0)) (by decide +kernel)) (by decide) hm_z
      replace hm_z := rn_iaload (N := 12) (q := 2) (v := pf) (am_cur_of (i := (94, 1, .iaload, (0, 0, 0), 0)) (by decide +kernel)) (by decide +kernel) rfl eP3 hm_z
      obtain ⟨p305_z, hm_z⟩ := hm_z
      replace hm_z := rn_iadd (w := (0 : Int32) + pf) (am_cur_of (i := (95, 1, .iadd, (0, 0, 0), 0)) (by decide +kernel)) rfl hm_z
      replace hm_z := rn_aload_n (am_cur_of (i := (96, 1, .aload_n 0, (0, 0, 0), 0)) (by decide +kernel)) g0_z hm_z
      replace hm_z := rn_getR (x := 168) (am_cur_of (i := (97, 3, .getfield 24, (12, 23, 1407), 0)) (by decide +kernel)) (by decide +kernel) hm_z
      replace hm_z := rn_iconst (w := 0) (am_cur_of (i := (100, 1, .iconst 0, (0, 0, 0), 0)) (by decide +kernel)) (by decide) hm_z
      replace hm_z := rn_iaload (N := 12) (q := 0) (v := Hd) (am_cur_of (i := (101, 1, .iaload, (0, 0, 0), 0)) (by decide +kernel)) (by decide +kernel) rfl eH3 hm_z
      obtain ⟨p306_z, hm_z⟩ := hm_z
      replace hm_z := rn_cmp (am_cur_of (i := (102, 3, .if_icmp .le 12, (66, 0, 0), 0)) (by decide +kernel)) hm_z
      rcases hm_z with ⟨b307_z, hm_z⟩ | ⟨b307_z, hm_z⟩
      · replace b307_z : ((0 : Int32) + pf).toInt ≤ Hd.toInt := b307_z
        replace hm_z := rn_iload (am_cur_of (i := (114, 2, .iload 6, (0, 0, 0), 0)) (by decide +kernel)) g6_z hm_z
        replace hm_z := rn_aload_n (am_cur_of (i := (116, 1, .aload_n 0, (0, 0, 0), 0)) (by decide +kernel)) g0_z hm_z
        replace hm_z := rn_getR (x := 168) (am_cur_of (i := (117, 3, .getfield 24, (12, 23, 1407), 0)) (by decide +kernel)) (by decide +kernel) hm_z
        replace hm_z := rn_iconst (w := 2) (am_cur_of (i := (120, 1, .iconst 2, (0, 0, 0), 0)) (by decide +kernel)) (by decide) hm_z
        replace hm_z := rn_iaload (N := 12) (q := 2) (v := pf) (am_cur_of (i := (121, 1, .iaload, (0, 0, 0), 0)) (by decide +kernel)) (by decide +kernel) rfl eP3 hm_z
        obtain ⟨p308_z, hm_z⟩ := hm_z
        replace hm_z := rn_iadd (w := (0 : Int32) + pf) (am_cur_of (i := (122, 1, .iadd, (0, 0, 0), 0)) (by decide +kernel)) rfl hm_z
        replace hm_z := rn_iret (am_cur_of (i := (123, 1, .ireturn, (0, 0, 0), 0)) (by decide +kernel)) hm_z
        obtain ⟨e309_z, e310_z⟩ := hm_z
        refine ⟨_, e309_z, ?_, by rw [e310_z]; exact k3_z⟩
        unfold secZ
        rw [if_neg b304_z.1, ← xe]
        omega
      · replace b307_z : Hd.toInt < ((0 : Int32) + pf).toInt := b307_z
        replace hm_z := rn_aload_n (am_cur_of (i := (105, 1, .aload_n 0, (0, 0, 0), 0)) (by decide +kernel)) g0_z hm_z
        replace hm_z := rn_getR (x := 168) (am_cur_of (i := (106, 3, .getfield 24, (12, 23, 1407), 0)) (by decide +kernel)) (by decide +kernel) hm_z
        replace hm_z := rn_iconst (w := 0) (am_cur_of (i := (109, 1, .iconst 0, (0, 0, 0), 0)) (by decide +kernel)) (by decide) hm_z
        replace hm_z := rn_iaload (N := 12) (q := 0) (v := Hd) (am_cur_of (i := (110, 1, .iaload, (0, 0, 0), 0)) (by decide +kernel)) (by decide +kernel) rfl eH3 hm_z
        obtain ⟨p311_z, hm_z⟩ := hm_z
        replace hm_z := rn_goto (am_cur_of (i := (111, 3, .goto 12, (72, 0, 0), 0)) (by decide +kernel)) hm_z
        replace hm_z := rn_iret (am_cur_of (i := (123, 1, .ireturn, (0, 0, 0), 0)) (by decide +kernel)) hm_z
        obtain ⟨e312_z, e313_z⟩ := hm_z
        refine ⟨_, e312_z, ?_, by rw [e313_z]; exact k3_z⟩
        unfold secZ
        rw [if_neg b304_z.1, ← xe]
        omega
    · replace b304_z : pm = (0 : Int32) ∧ pm.toInt = (0 : Int32).toInt := b304_z
      replace hm_z := rn_iload (am_cur_of (i := (84, 2, .iload 6, (0, 0, 0), 0)) (by decide +kernel)) g6_z hm_z
      replace hm_z := rn_iret (am_cur_of (i := (86, 1, .ireturn, (0, 0, 0), 0)) (by decide +kernel)) hm_z
      obtain ⟨e314_z, e315_z⟩ := hm_z
      refine ⟨_, e314_z, ?_, by rw [e315_z]; exact k3_z⟩
      unfold secZ
      rw [if_pos b304_z.1, ← xe]
      omega
theorem as_199_0 {n p : Nat} {r : Option Value} {h0_z g g' : am_H} {bd pm F S Hd pf U ra re nl ls pt mo : Int32} (hL : LW p h0_z g) (eF : rg_v g 188 bd.toNatClampNeg = F) (eS : rg_v g 189 bd.toNatClampNeg = S) (eH : rg_v g 168 0 = Hd) (ePf : rg_v g 168 2 = pf) (eU : rg_v g 164 61 = U) (eRa : rg_v g 164 62 = ra) (eRe : rg_v g 164 58 = re) (eNl : rg_v g 164 60 = nl) (eLs : rg_v g 164 14 = ls) (ePt : rg_v g 164 57 = pt) (emo : leM ra re nl ls pt (fun q => rg_v g 174 q) = mo) (H0 : 0 ≤ Hd.toInt) (H9 : Hd.toInt ≤ 9999) (p0_z : 0 ≤ pf.toInt) (p9_z : pf.toInt ≤ 9999) (m0_z : 0 ≤ mo.toInt) (m9_z : mo.toInt ≤ 999) (F0 : 0 ≤ F.toInt) (F9 : F.toInt ≤ 99999) (hm_z : rn n am_m199 0 (lv_args 0 [.ref 164, .int bd, .int 0, .int pm]) [] g r g') : ∃ x : Int32, x.toInt = secZ p h0_z U Hd pm pf mo 0 F S ∧ rg_v g' 188 bd.toNatClampNeg = x ∧ rg_v g' 189 bd.toNatClampNeg = S + 1 ∧ ∀ o q, ¬ (o = 164 ∧ q = 49) → ¬ o = 187 → ¬ o = 186 → ¬ (o = 188 ∧ q = bd.toNatClampNeg) → ¬ (o = 189 ∧ q = bd.toNatClampNeg) → g' o q = g o q := by
  have g0_z : am_get (lv_args 0 [.ref 164, .int bd, .int 0, .int pm]) 0 = some (.ref 164) := rfl
  have g1_z : am_get (lv_args 0 [.ref 164, .int bd, .int 0, .int pm]) 1 = some (.int bd) := rfl
  have g2_z : am_get (lv_args 0 [.ref 164, .int bd, .int 0, .int pm]) 2 = some (.int 0) := rfl
  have g3_z : am_get (lv_args 0 [.ref 164, .int bd, .int 0, .int pm]) 3 = some (.int pm) := rfl
  replace hm_z := rn_aload_n (am_cur_of (i := (0, 1, .aload_n 0, (0, 0, 0), 0)) (by decide +kernel)) g0_z hm_z
  replace hm_z := rn_getR (x := 188) (am_cur_of (i := (1, 3, .getfield 85, (12, 50, 1434), 0)) (by decide +kernel)) (by decide +kernel) hm_z
  replace hm_z := rn_iload_n (am_cur_of (i := (4, 1, .iload_n 1, (0, 0, 0), 0)) (by decide +kernel)) g1_z hm_z
  replace hm_z := rn_aload_n (am_cur_of (i := (5, 1, .aload_n 0, (0, 0, 0), 0)) (by decide +kernel)) g0_z hm_z
  replace hm_z := rn_iload_n (am_cur_of (i := (6, 1, .iload_n 1, (0, 0, 0), 0)) (by decide +kernel)) g1_z hm_z
  replace hm_z := rn_iload_n (am_cur_of (i := (7, 1, .iload_n 2, (0, 0, 0), 0)) (by decide +kernel)) g2_z hm_z
  replace hm_z := rn_iload_n (am_cur_of (i := (8, 1, .iload_n 3, (0, 0, 0), 0)) (by decide +kernel)) g3_z hm_z
  replace hm_z := rn_callV (M' := am_m200) (o := 164) (ar := [.int pm, .int 0, .int bd]) (rest := [.int bd, .ref 188]) (L := lv_args 0 [.ref 164, .int bd, .int 0, .int pm]) (am_cur_of (i := (9, 3, .invokevirtual 409, (200, 1832, 3), 0)) (by decide +kernel)) rfl rfl rfl rfl hm_z
  obtain ⟨r316_z, h317_z, q318_z, hm_z⟩ := hm_z
  obtain ⟨x, rr, xe, k1_z⟩ := fn_200_0 hL eF eS eH ePf eU eRa eRe eNl eLs ePt emo H0 H9 p0_z p9_z m0_z m9_z F0 F9 q318_z
  subst rr
  have eS1 := (mk_v (o := 189) (q := bd.toNatClampNeg) k1_z (by omega) (by decide) (by decide)).trans eS
  replace hm_z : rn _ _ _ _ [.int x, .int bd, .ref 188] _ _ _ := hm_z
  replace hm_z := rn_iastore (N := 4) (q := bd.toNatClampNeg) (am_cur_of (i := (12, 1, .iastore, (0, 0, 0), 0)) (by decide +kernel)) (by decide +kernel) rfl hm_z
  obtain ⟨p319_z, hm_z⟩ := hm_z
  replace hm_z := rn_aload_n (am_cur_of (i := (13, 1, .aload_n 0, (0, 0, 0), 0)) (by decide +kernel)) g0_z hm_z
  replace hm_z := rn_getR (x := 189) (am_cur_of (i := (14, 3, .getfield 88, (12, 51, 1435), 0)) (by decide +kernel)) (by decide +kernel) hm_z
  replace hm_z := rn_iload_n (am_cur_of (i := (17, 1, .iload_n 1, (0, 0, 0), 0)) (by decide +kernel)) g1_z hm_z
  replace hm_z := rn_dup2 (am_cur_of (i := (18, 1, .dup2, (0, 0, 0), 0)) (by decide +kernel)) hm_z
  replace hm_z := rn_iaload (N := 4) (q := bd.toNatClampNeg) (v := S) (am_cur_of (i := (19, 1, .iaload, (0, 0, 0), 0)) (by decide +kernel)) (by decide +kernel) rfl ((rg_v_other (by omega)).trans (eS1)) hm_z
  obtain ⟨p320_z, hm_z⟩ := hm_z
  replace hm_z := rn_iconst (w := 1) (am_cur_of (i := (20, 1, .iconst 1, (0, 0, 0), 0)) (by decide +kernel)) (by decide) hm_z
  replace hm_z := rn_iadd (w := S + 1) (am_cur_of (i := (21, 1, .iadd, (0, 0, 0), 0)) (by decide +kernel)) rfl hm_z
  replace hm_z := rn_iastore (N := 4) (q := bd.toNatClampNeg) (am_cur_of (i := (22, 1, .iastore, (0, 0, 0), 0)) (by decide +kernel)) (by decide +kernel) rfl hm_z
  obtain ⟨p321_z, hm_z⟩ := hm_z
  replace hm_z := rn_vret (am_cur_of (i := (23, 1, .return_, (0, 0, 0), 0)) (by decide +kernel)) hm_z
  obtain ⟨e322_z, e323_z⟩ := hm_z
  refine ⟨x, xe, ?_, ?_, fun o q a_ b_ c_ d_ e_ => ?_⟩
  · rw [e323_z]
    exact (rg_v_other (by omega)).trans rg_v_self
  · rw [e323_z]
    exact rg_v_self
  · rw [e323_z]
    exact (up_ne e_).trans ((up_ne d_).trans (k1_z o q a_ b_ c_))
theorem fn_200_1 {n p : Nat} {r : Option Value} {h0_z g g' : am_H} {bd pm F S Hd pf U ra re nl ls pt mo : Int32} (hL : LW p h0_z g) (eF : rg_v g 188 bd.toNatClampNeg = F) (eS : rg_v g 189 bd.toNatClampNeg = S) (eH : rg_v g 168 0 = Hd) (ePf : rg_v g 168 2 = pf) (eU : rg_v g 164 61 = U) (eRa : rg_v g 164 62 = ra) (eRe : rg_v g 164 58 = re) (eNl : rg_v g 164 60 = nl) (eLs : rg_v g 164 14 = ls) (ePt : rg_v g 164 57 = pt) (emo : leM ra re nl ls pt (fun q => rg_v g 174 q) = mo) (H0 : 0 ≤ Hd.toInt) (H9 : Hd.toInt ≤ 9999) (p0_z : 0 ≤ pf.toInt) (p9_z : pf.toInt ≤ 9999) (m0_z : 0 ≤ mo.toInt) (m9_z : mo.toInt ≤ 999) (F0 : 0 ≤ F.toInt) (F9 : F.toInt ≤ 99999) (hm_z : rn n am_m200 0 (lv_args 0 [.ref 164, .int bd, .int 1, .int pm]) [] g r g') : ∃ x : Int32, r = some (.int x) ∧ x.toInt = secZ p h0_z U Hd pm pf mo 1 F S ∧ mk g g' := by
  have z0_z : (0 : Int32).toInt = 0 := by decide
  have z20_z : (20 : Int32).toInt = 20 := by decide
  have z999_z : (999 : Int32).toInt = 999 := by decide
  have k0_z : (0 : Int32).toNatClampNeg = 0 := by decide
  have g0_z : am_get (lv_args 0 [.ref 164, .int bd, .int 1, .int pm]) 0 = some (.ref 164) := rfl
  have g1_z : am_get (lv_args 0 [.ref 164, .int bd, .int 1, .int pm]) 1 = some (.int bd) := rfl
  have g2_z : am_get (lv_args 0 [.ref 164, .int bd, .int 1, .int pm]) 2 = some (.int 1) := rfl
  have g3_z : am_get (lv_args 0 [.ref 164, .int bd, .int 1, .int pm]) 3 = some (.int pm) := rfl
  replace hm_z := rn_iload_n (am_cur_of (i := (0, 1, .iload_n 2, (0, 0, 0), 0)) (by decide +kernel)) g2_z hm_z
  replace hm_z := rn_ifF (am_cur_of (i := (1, 3, .ifCond .eq 7, (4, 0, 0), 0)) (by decide +kernel)) (by decide) hm_z
  replace hm_z := rn_iconst (w := 1) (am_cur_of (i := (4, 1, .iconst 1, (0, 0, 0), 0)) (by decide +kernel)) (by decide) hm_z
  replace hm_z := rn_goto (am_cur_of (i := (5, 3, .goto 4, (5, 0, 0), 0)) (by decide +kernel)) hm_z
  replace hm_z := rn_istore (am_cur_of (i := (9, 2, .istore 4, (0, 0, 0), 0)) (by decide +kernel)) hm_z
  obtain ⟨_, s324_z, s325_z, g4_z, hm_z⟩ := hm_z
  replace g0_z := s324_z 0 _ (by decide) rfl g0_z
  replace g1_z := s324_z 1 _ (by decide) rfl g1_z
  replace g2_z := s324_z 2 _ (by decide) rfl g2_z
  replace g3_z := s324_z 3 _ (by decide) rfl g3_z
  clear s324_z s325_z
  replace hm_z := rn_aload_n (am_cur_of (i := (11, 1, .aload_n 0, (0, 0, 0), 0)) (by decide +kernel)) g0_z hm_z
  replace hm_z := rn_iload_n (am_cur_of (i := (12, 1, .iload_n 1, (0, 0, 0), 0)) (by decide +kernel)) g1_z hm_z
  replace hm_z := rn_iload (am_cur_of (i := (13, 2, .iload 4, (0, 0, 0), 0)) (by decide +kernel)) g4_z hm_z
  replace hm_z := rn_callV (M' := am_m188) (o := 164) (ar := [.int 1, .int bd]) (rest := []) (L := lv_args 0 [.ref 164, .int bd, .int 1]) (am_cur_of (i := (15, 3, .invokevirtual 403, (188, 1783, 3), 0)) (by decide +kernel)) rfl rfl rfl rfl hm_z
  obtain ⟨r326_z, h327_z, q328_z, hm_z⟩ := hm_z
  obtain ⟨l, rr, le, lf⟩ := lo_188 hL eF eS eH eU q328_z
  subst rr
  have el := ldX_e le
  have k1_z : mk g h327_z := lf
  have eF1 := (mk_v (o := 188) (q := bd.toNatClampNeg) k1_z (by omega) (by decide) (by decide)).trans eF
  have eS1 := (mk_v (o := 189) (q := bd.toNatClampNeg) k1_z (by omega) (by decide) (by decide)).trans eS
  have eH1 := (mk_v (o := 168) (q := 0) k1_z (by omega) (by decide) (by decide)).trans eH
  replace hm_z : rn _ _ _ _ [.int l] _ _ _ := hm_z
  replace hm_z := rn_istore (am_cur_of (i := (18, 2, .istore 5, (0, 0, 0), 0)) (by decide +kernel)) hm_z
  obtain ⟨_, s329_z, s330_z, g5_z, hm_z⟩ := hm_z
  replace g0_z := s329_z 0 _ (by decide) rfl g0_z
  replace g1_z := s329_z 1 _ (by decide) rfl g1_z
  replace g2_z := s329_z 2 _ (by decide) rfl g2_z
  replace g3_z := s329_z 3 _ (by decide) rfl g3_z
  replace g4_z := s329_z 4 _ (by decide) rfl g4_z
  clear s329_z s330_z
  replace hm_z := rn_aload_n (am_cur_of (i := (20, 1, .aload_n 0, (0, 0, 0), 0)) (by decide +kernel)) g0_z hm_z
  replace hm_z := rn_iload_n (am_cur_of (i := (21, 1, .iload_n 1, (0, 0, 0), 0)) (by decide +kernel)) g1_z hm_z
  replace hm_z := rn_iload (am_cur_of (i := (22, 2, .iload 4, (0, 0, 0), 0)) (by decide +kernel)) g4_z hm_z
  replace hm_z := rn_iload (am_cur_of (i := (24, 2, .iload 5, (0, 0, 0), 0)) (by decide +kernel)) g5_z hm_z
  replace hm_z := rn_iconst (w := 0) (am_cur_of (i := (26, 1, .iconst 0, (0, 0, 0), 0)) (by decide +kernel)) (by decide) hm_z
  replace hm_z := rn_callV (M' := am_m189) (o := 164) (ar := [.int 0, .int l, .int 1, .int bd]) (rest := []) (L := lv_args 0 [.ref 164, .int bd, .int 1, .int l, .int 0]) (am_cur_of (i := (27, 3, .invokevirtual 392, (189, 1787, 3), 0)) (by decide +kernel)) rfl rfl rfl rfl hm_z
  obtain ⟨r331_z, h332_z, q333_z, hm_z⟩ := hm_z
  have vo := rn_void rfl q333_z
  subst vo
  obtain ⟨yf, yn⟩ := ly_189 eF1 eS1 eH1 q333_z
  have k2_z : mk g h332_z := mk_t k1_z (fun o q _ _ c => yf o q c)
  have eF2 := (mk_v (o := 188) (q := bd.toNatClampNeg) k2_z (by omega) (by decide) (by decide)).trans eF
  obtain ⟨n1_z, n2_z, n3_z⟩ := nm_al yn
  replace hm_z : rn _ _ _ _ [] _ _ _ := hm_z
  replace hm_z := rn_aload_n (am_cur_of (i := (30, 1, .aload_n 0, (0, 0, 0), 0)) (by decide +kernel)) g0_z hm_z
  replace hm_z := rn_getR (x := 188) (am_cur_of (i := (31, 3, .getfield 85, (12, 50, 1434), 0)) (by decide +kernel)) (by decide +kernel) hm_z
  replace hm_z := rn_iload_n (am_cur_of (i := (34, 1, .iload_n 1, (0, 0, 0), 0)) (by decide +kernel)) g1_z hm_z
  replace hm_z := rn_iaload (N := 4) (q := bd.toNatClampNeg) (v := F) (am_cur_of (i := (35, 1, .iaload, (0, 0, 0), 0)) (by decide +kernel)) (by decide +kernel) rfl eF2 hm_z
  obtain ⟨p334_z, hm_z⟩ := hm_z
  replace hm_z := rn_aload_n (am_cur_of (i := (36, 1, .aload_n 0, (0, 0, 0), 0)) (by decide +kernel)) g0_z hm_z
  replace hm_z := rn_iconst (w := 0) (am_cur_of (i := (37, 1, .iconst 0, (0, 0, 0), 0)) (by decide +kernel)) (by decide) hm_z
  replace hm_z := rn_aload_n (am_cur_of (i := (38, 1, .aload_n 0, (0, 0, 0), 0)) (by decide +kernel)) g0_z hm_z
  replace hm_z := rn_getR (x := 188) (am_cur_of (i := (39, 3, .getfield 85, (12, 50, 1434), 0)) (by decide +kernel)) (by decide +kernel) hm_z
  replace hm_z := rn_iload_n (am_cur_of (i := (42, 1, .iload_n 1, (0, 0, 0), 0)) (by decide +kernel)) g1_z hm_z
  replace hm_z := rn_iaload (N := 4) (q := bd.toNatClampNeg) (v := F) (am_cur_of (i := (43, 1, .iaload, (0, 0, 0), 0)) (by decide +kernel)) (by decide +kernel) rfl eF2 hm_z
  obtain ⟨p335_z, hm_z⟩ := hm_z
  replace hm_z := rn_bipush (w := 100) (am_cur_of (i := (44, 2, .bipush 100, (0, 0, 0), 0)) (by decide +kernel)) (by decide) hm_z
  replace hm_z := rn_idiv (w := F / 100) (am_cur_of (i := (46, 1, .idiv, (0, 0, 0), 0)) (by decide +kernel)) rfl hm_z
  obtain ⟨d336_z, hm_z⟩ := hm_z
  replace hm_z := rn_bipush (w := 20) (am_cur_of (i := (47, 2, .bipush 20, (0, 0, 0), 0)) (by decide +kernel)) (by decide) hm_z
  replace hm_z := rn_iload (am_cur_of (i := (49, 2, .iload 4, (0, 0, 0), 0)) (by decide +kernel)) g4_z hm_z
  replace hm_z := rn_imul (w := 20) (am_cur_of (i := (51, 1, .imul, (0, 0, 0), 0)) (by decide +kernel)) (by decide) hm_z
  replace hm_z := rn_iadd (w := (F / 100) + 20) (am_cur_of (i := (52, 1, .iadd, (0, 0, 0), 0)) (by decide +kernel)) rfl hm_z
  replace hm_z := rn_sipush (w := 999) (am_cur_of (i := (53, 3, .sipush 999, (0, 0, 0), 0)) (by decide +kernel)) (by decide) hm_z
  replace hm_z := rn_callV (M' := am_m190) (o := 164) (ar := [.int 999, .int ((F / 100) + 20), .int 0]) (rest := [.int F]) (L := lv_args 0 [.ref 164, .int 0, .int ((F / 100) + 20), .int 999]) (am_cur_of (i := (56, 3, .invokevirtual 396, (190, 1791, 3), 0)) (by decide +kernel)) rfl rfl rfl rfl hm_z
  obtain ⟨r337_z, h338_z, q339_z, hm_z⟩ := hm_z
  obtain ⟨xl, rr, xe, xf⟩ := bw_190 (N := eC l F (Hd - F) 1 S 0) (by rw [k0_z]; exact LW_m k2_z hL 0 (by decide)) n1_z (Or.inr n2_z) n3_z (by decide) q339_z
  subst rr
  have k3_z : mk g h338_z := mk_t k2_z (fun o q a b _ => xf o q a b)
  have dv := dv_100 (F := F) (by omega)
  have dw := ab_iadd (x := F / 100) (y := 20) (by omega) (by omega)
  have eWo : (F / 100 + 20).toInt = F.toInt / 100 + 20 * (1 : Int32).toInt := by
    have y1_z : (1 : Int32).toInt = 1 := by decide
    have y0_z : (0 : Int32).toInt = 0 := by decide
    omega
  rw [k0_z, eWo, show (999 : Int32).toInt = 999 by decide, el] at xe
  have bw := bnd_w (q := lawX p h0_z 0 (eC (ldX p h0_z U F (Hd - F) 1 S) F (Hd - F) 1 S 0)) (wo := F.toInt / 100 + 20 * (1 : Int32).toInt) (mo := 999) (by omega) (by decide)
  rw [← xe] at bw
  have c2_z := ab_isub (x := F) (y := xl) (by omega) (by omega)
  have eRa3 := (mk_v (o := 164) (q := 62) k3_z (by omega) (by decide) (by decide)).trans eRa
  have eRe3 := (mk_v (o := 164) (q := 58) k3_z (by omega) (by decide) (by decide)).trans eRe
  have eNl3 := (mk_v (o := 164) (q := 60) k3_z (by omega) (by decide) (by decide)).trans eNl
  have eLs3 := (mk_v (o := 164) (q := 14) k3_z (by omega) (by decide) (by decide)).trans eLs
  have ePt3 := (mk_v (o := 164) (q := 57) k3_z (by omega) (by decide) (by decide)).trans ePt
  have eH3 := (mk_v (o := 168) (q := 0) k3_z (by omega) (by decide) (by decide)).trans eH
  have eP3 := (mk_v (o := 168) (q := 2) k3_z (by omega) (by decide) (by decide)).trans ePf
  replace hm_z : rn _ _ _ _ [.int xl, .int F] _ _ _ := hm_z
  replace hm_z := rn_isub (w := F - xl) (am_cur_of (i := (59, 1, .isub, (0, 0, 0), 0)) (by decide +kernel)) rfl hm_z
  replace hm_z := rn_aload_n (am_cur_of (i := (60, 1, .aload_n 0, (0, 0, 0), 0)) (by decide +kernel)) g0_z hm_z
  replace hm_z := rn_callV (M' := am_m201) (o := 164) (ar := []) (rest := [.int (F - xl)]) (L := lv_args 0 [.ref 164]) (am_cur_of (i := (61, 3, .invokevirtual 406, (201, 1836, 3), 0)) (by decide +kernel)) rfl rfl rfl rfl hm_z
  obtain ⟨r340_z, h341_z, q342_z, hm_z⟩ := hm_z
  obtain ⟨hh, rr⟩ := lk_201 eRa3 eRe3 eNl3 eLs3 ePt3 q342_z
  replace hh := hh.symm
  subst hh
  rw [show (fun q => rg_v h338_z 174 q) = (fun q => rg_v g 174 q) from funext (fun q => mk_v k3_z (by omega) (by decide) (by decide)), emo] at rr
  subst rr
  have c3_z := ab_isub (x := F - xl) (y := mo) (by omega) (by omega)
  replace hm_z : rn _ _ _ _ [.int mo, .int (F - xl)] _ _ _ := hm_z
  replace hm_z := rn_isub (w := (F - xl) - mo) (am_cur_of (i := (64, 1, .isub, (0, 0, 0), 0)) (by decide +kernel)) rfl hm_z
  replace hm_z := rn_istore (am_cur_of (i := (65, 2, .istore 6, (0, 0, 0), 0)) (by decide +kernel)) hm_z
  obtain ⟨_, s343_z, s344_z, g6_z, hm_z⟩ := hm_z
  replace g0_z := s343_z 0 _ (by decide) rfl g0_z
  replace g1_z := s343_z 1 _ (by decide) rfl g1_z
  replace g2_z := s343_z 2 _ (by decide) rfl g2_z
  replace g3_z := s343_z 3 _ (by decide) rfl g3_z
  replace g4_z := s343_z 4 _ (by decide) rfl g4_z
  replace g5_z := s343_z 5 _ (by decide) rfl g5_z
  clear s343_z s344_z
  replace hm_z := rn_iload (am_cur_of (i := (67, 2, .iload 6, (0, 0, 0), 0)) (by decide +kernel)) g6_z hm_z
  replace hm_z := rn_if (am_cur_of (i := (69, 3, .ifCond .ge 7, (44, 0, 0), 0)) (by decide +kernel)) hm_z
  rcases hm_z with ⟨b345_z, hm_z⟩ | ⟨b345_z, hm_z⟩
  · replace b345_z : (0 : Int32).toInt ≤ ((F - xl) - mo).toInt := b345_z
    replace hm_z := rn_iload (am_cur_of (i := (76, 2, .iload 6, (0, 0, 0), 0)) (by decide +kernel)) g6_z hm_z
    replace hm_z := rn_istore (am_cur_of (i := (78, 2, .istore 6, (0, 0, 0), 0)) (by decide +kernel)) hm_z
    obtain ⟨_, s346_z, s347_z, g6_z, hm_z⟩ := hm_z
    replace g0_z := s346_z 0 _ (by decide) rfl g0_z
    replace g1_z := s346_z 1 _ (by decide) rfl g1_z
    replace g2_z := s346_z 2 _ (by decide) rfl g2_z
    replace g3_z := s346_z 3 _ (by decide) rfl g3_z
    replace g4_z := s346_z 4 _ (by decide) rfl g4_z
    replace g5_z := s346_z 5 _ (by decide) rfl g5_z
    clear s346_z s347_z
    replace hm_z := rn_iload_n (am_cur_of (i := (80, 1, .iload_n 3, (0, 0, 0), 0)) (by decide +kernel)) g3_z hm_z
    replace hm_z := rn_if (am_cur_of (i := (81, 3, .ifCond .ne 6, (50, 0, 0), 0)) (by decide +kernel)) hm_z
    rcases hm_z with ⟨b348_z, hm_z⟩ | ⟨b348_z, hm_z⟩
    · replace b348_z : ¬ pm = (0 : Int32) ∧ ¬ pm.toInt = (0 : Int32).toInt := b348_z
      have c4_z := ab_iadd (x := (F - xl) - mo) (y := pf) (by omega) (by omega)
      replace hm_z := rn_iload (am_cur_of (i := (87, 2, .iload 6, (0, 0, 0), 0)) (by decide +kernel)) g6_z hm_z
      replace hm_z := rn_aload_n (am_cur_of (i := (89, 1, .aload_n 0, (0, 0, 0), 0)) (by decide +kernel)) g0_z hm_z
      replace hm_z := rn_getR (x := 168) (am_cur_of (i := (90, 3, .getfield 24, (12, 23, 1407), 0)) (by decide +kernel)) (by decide +kernel) hm_z
      replace hm_z := rn_iconst (w := 2) (am_cur_of (i := (93, 1, .iconst 2, (0, 0, 0), 0)) (by decide +kernel)) (by decide) hm_z
      replace hm_z := rn_iaload (N := 12) (q := 2) (v := pf) (am_cur_of (i := (94, 1, .iaload, (0, 0, 0), 0)) (by decide +kernel)) (by decide +kernel) rfl eP3 hm_z
      obtain ⟨p349_z, hm_z⟩ := hm_z
      replace hm_z := rn_iadd (w := ((F - xl) - mo) + pf) (am_cur_of (i := (95, 1, .iadd, (0, 0, 0), 0)) (by decide +kernel)) rfl hm_z
      replace hm_z := rn_aload_n (am_cur_of (i := (96, 1, .aload_n 0, (0, 0, 0), 0)) (by decide +kernel)) g0_z hm_z
      replace hm_z := rn_getR (x := 168) (am_cur_of (i := (97, 3, .getfield 24, (12, 23, 1407), 0)) (by decide +kernel)) (by decide +kernel) hm_z
      replace hm_z := rn_iconst (w := 0) (am_cur_of (i := (100, 1, .iconst 0, (0, 0, 0), 0)) (by decide +kernel)) (by decide) hm_z
      replace hm_z := rn_iaload (N := 12) (q := 0) (v := Hd) (am_cur_of (i := (101, 1, .iaload, (0, 0, 0), 0)) (by decide +kernel)) (by decide +kernel) rfl eH3 hm_z
      obtain ⟨p350_z, hm_z⟩ := hm_z
      replace hm_z := rn_cmp (am_cur_of (i := (102, 3, .if_icmp .le 12, (66, 0, 0), 0)) (by decide +kernel)) hm_z
      rcases hm_z with ⟨b351_z, hm_z⟩ | ⟨b351_z, hm_z⟩
      · replace b351_z : (((F - xl) - mo) + pf).toInt ≤ Hd.toInt := b351_z
        replace hm_z := rn_iload (am_cur_of (i := (114, 2, .iload 6, (0, 0, 0), 0)) (by decide +kernel)) g6_z hm_z
        replace hm_z := rn_aload_n (am_cur_of (i := (116, 1, .aload_n 0, (0, 0, 0), 0)) (by decide +kernel)) g0_z hm_z
        replace hm_z := rn_getR (x := 168) (am_cur_of (i := (117, 3, .getfield 24, (12, 23, 1407), 0)) (by decide +kernel)) (by decide +kernel) hm_z
        replace hm_z := rn_iconst (w := 2) (am_cur_of (i := (120, 1, .iconst 2, (0, 0, 0), 0)) (by decide +kernel)) (by decide) hm_z
        replace hm_z := rn_iaload (N := 12) (q := 2) (v := pf) (am_cur_of (i := (121, 1, .iaload, (0, 0, 0), 0)) (by decide +kernel)) (by decide +kernel) rfl eP3 hm_z
        obtain ⟨p352_z, hm_z⟩ := hm_z
        replace hm_z := rn_iadd (w := ((F - xl) - mo) + pf) (am_cur_of (i := (122, 1, .iadd, (0, 0, 0), 0)) (by decide +kernel)) rfl hm_z
        replace hm_z := rn_iret (am_cur_of (i := (123, 1, .ireturn, (0, 0, 0), 0)) (by decide +kernel)) hm_z
        obtain ⟨e353_z, e354_z⟩ := hm_z
        refine ⟨_, e353_z, ?_, by rw [e354_z]; exact k3_z⟩
        unfold secZ
        rw [if_neg b348_z.1, ← xe]
        omega
      · replace b351_z : Hd.toInt < (((F - xl) - mo) + pf).toInt := b351_z
        replace hm_z := rn_aload_n (am_cur_of (i := (105, 1, .aload_n 0, (0, 0, 0), 0)) (by decide +kernel)) g0_z hm_z
        replace hm_z := rn_getR (x := 168) (am_cur_of (i := (106, 3, .getfield 24, (12, 23, 1407), 0)) (by decide +kernel)) (by decide +kernel) hm_z
        replace hm_z := rn_iconst (w := 0) (am_cur_of (i := (109, 1, .iconst 0, (0, 0, 0), 0)) (by decide +kernel)) (by decide) hm_z
        replace hm_z := rn_iaload (N := 12) (q := 0) (v := Hd) (am_cur_of (i := (110, 1, .iaload, (0, 0, 0), 0)) (by decide +kernel)) (by decide +kernel) rfl eH3 hm_z
        obtain ⟨p355_z, hm_z⟩ := hm_z
        replace hm_z := rn_goto (am_cur_of (i := (111, 3, .goto 12, (72, 0, 0), 0)) (by decide +kernel)) hm_z
        replace hm_z := rn_iret (am_cur_of (i := (123, 1, .ireturn, (0, 0, 0), 0)) (by decide +kernel)) hm_z
        obtain ⟨e356_z, e357_z⟩ := hm_z
        refine ⟨_, e356_z, ?_, by rw [e357_z]; exact k3_z⟩
        unfold secZ
        rw [if_neg b348_z.1, ← xe]
        omega
    · replace b348_z : pm = (0 : Int32) ∧ pm.toInt = (0 : Int32).toInt := b348_z
      replace hm_z := rn_iload (am_cur_of (i := (84, 2, .iload 6, (0, 0, 0), 0)) (by decide +kernel)) g6_z hm_z
      replace hm_z := rn_iret (am_cur_of (i := (86, 1, .ireturn, (0, 0, 0), 0)) (by decide +kernel)) hm_z
      obtain ⟨e358_z, e359_z⟩ := hm_z
      refine ⟨_, e358_z, ?_, by rw [e359_z]; exact k3_z⟩
      unfold secZ
      rw [if_pos b348_z.1, ← xe]
      omega
  · replace b345_z : ((F - xl) - mo).toInt < (0 : Int32).toInt := b345_z
    replace hm_z := rn_iconst (w := 0) (am_cur_of (i := (72, 1, .iconst 0, (0, 0, 0), 0)) (by decide +kernel)) (by decide) hm_z
    replace hm_z := rn_goto (am_cur_of (i := (73, 3, .goto 5, (45, 0, 0), 0)) (by decide +kernel)) hm_z
    replace hm_z := rn_istore (am_cur_of (i := (78, 2, .istore 6, (0, 0, 0), 0)) (by decide +kernel)) hm_z
    obtain ⟨_, s360_z, s361_z, g6_z, hm_z⟩ := hm_z
    replace g0_z := s360_z 0 _ (by decide) rfl g0_z
    replace g1_z := s360_z 1 _ (by decide) rfl g1_z
    replace g2_z := s360_z 2 _ (by decide) rfl g2_z
    replace g3_z := s360_z 3 _ (by decide) rfl g3_z
    replace g4_z := s360_z 4 _ (by decide) rfl g4_z
    replace g5_z := s360_z 5 _ (by decide) rfl g5_z
    clear s360_z s361_z
    replace hm_z := rn_iload_n (am_cur_of (i := (80, 1, .iload_n 3, (0, 0, 0), 0)) (by decide +kernel)) g3_z hm_z
    replace hm_z := rn_if (am_cur_of (i := (81, 3, .ifCond .ne 6, (50, 0, 0), 0)) (by decide +kernel)) hm_z
    rcases hm_z with ⟨b362_z, hm_z⟩ | ⟨b362_z, hm_z⟩
    · replace b362_z : ¬ pm = (0 : Int32) ∧ ¬ pm.toInt = (0 : Int32).toInt := b362_z
      have c4_z := ab_iadd (x := 0) (y := pf) (by omega) (by omega)
      replace hm_z := rn_iload (am_cur_of (i := (87, 2, .iload 6, (0, 0, 0), 0)) (by decide +kernel)) g6_z hm_z
      replace hm_z := rn_aload_n (am_cur_of (i := (89, 1, .aload_n 0, (0, 0, 0), 0)) (by decide +kernel)) g0_z hm_z
      replace hm_z := rn_getR (x := 168) (am_cur_of (i := (90, 3, .getfield 24, (12, 23, 1407), 0)) (by decide +kernel)) (by decide +kernel) hm_z
      replace hm_z := rn_iconst (w := 2) (am_cur_of (i := (93, 1, .iconst 2, (0, 0, 0), 0)) (by decide +kernel)) (by decide) hm_z
      replace hm_z := rn_iaload (N := 12) (q := 2) (v := pf) (am_cur_of (i := (94, 1, .iaload, (0, 0, 0), 0)) (by decide +kernel)) (by decide +kernel) rfl eP3 hm_z
      obtain ⟨p363_z, hm_z⟩ := hm_z
      replace hm_z := rn_iadd (w := (0 : Int32) + pf) (am_cur_of (i := (95, 1, .iadd, (0, 0, 0), 0)) (by decide +kernel)) rfl hm_z
      replace hm_z := rn_aload_n (am_cur_of (i := (96, 1, .aload_n 0, (0, 0, 0), 0)) (by decide +kernel)) g0_z hm_z
      replace hm_z := rn_getR (x := 168) (am_cur_of (i := (97, 3, .getfield 24, (12, 23, 1407), 0)) (by decide +kernel)) (by decide +kernel) hm_z
      replace hm_z := rn_iconst (w := 0) (am_cur_of (i := (100, 1, .iconst 0, (0, 0, 0), 0)) (by decide +kernel)) (by decide) hm_z
      replace hm_z := rn_iaload (N := 12) (q := 0) (v := Hd) (am_cur_of (i := (101, 1, .iaload, (0, 0, 0), 0)) (by decide +kernel)) (by decide +kernel) rfl eH3 hm_z
      obtain ⟨p364_z, hm_z⟩ := hm_z
      replace hm_z := rn_cmp (am_cur_of (i := (102, 3, .if_icmp .le 12, (66, 0, 0), 0)) (by decide +kernel)) hm_z
      rcases hm_z with ⟨b365_z, hm_z⟩ | ⟨b365_z, hm_z⟩
      · replace b365_z : ((0 : Int32) + pf).toInt ≤ Hd.toInt := b365_z
        replace hm_z := rn_iload (am_cur_of (i := (114, 2, .iload 6, (0, 0, 0), 0)) (by decide +kernel)) g6_z hm_z
        replace hm_z := rn_aload_n (am_cur_of (i := (116, 1, .aload_n 0, (0, 0, 0), 0)) (by decide +kernel)) g0_z hm_z
        replace hm_z := rn_getR (x := 168) (am_cur_of (i := (117, 3, .getfield 24, (12, 23, 1407), 0)) (by decide +kernel)) (by decide +kernel) hm_z
        replace hm_z := rn_iconst (w := 2) (am_cur_of (i := (120, 1, .iconst 2, (0, 0, 0), 0)) (by decide +kernel)) (by decide) hm_z
        replace hm_z := rn_iaload (N := 12) (q := 2) (v := pf) (am_cur_of (i := (121, 1, .iaload, (0, 0, 0), 0)) (by decide +kernel)) (by decide +kernel) rfl eP3 hm_z
        obtain ⟨p366_z, hm_z⟩ := hm_z
        replace hm_z := rn_iadd (w := (0 : Int32) + pf) (am_cur_of (i := (122, 1, .iadd, (0, 0, 0), 0)) (by decide +kernel)) rfl hm_z
        replace hm_z := rn_iret (am_cur_of (i := (123, 1, .ireturn, (0, 0, 0), 0)) (by decide +kernel)) hm_z
        obtain ⟨e367_z, e368_z⟩ := hm_z
        refine ⟨_, e367_z, ?_, by rw [e368_z]; exact k3_z⟩
        unfold secZ
        rw [if_neg b362_z.1, ← xe]
        omega
      · replace b365_z : Hd.toInt < ((0 : Int32) + pf).toInt := b365_z
        replace hm_z := rn_aload_n (am_cur_of (i := (105, 1, .aload_n 0, (0, 0, 0), 0)) (by decide +kernel)) g0_z hm_z
        replace hm_z := rn_getR (x := 168) (am_cur_of (i := (106, 3, .getfield 24, (12, 23, 1407), 0)) (by decide +kernel)) (by decide +kernel) hm_z
        replace hm_z := rn_iconst (w := 0) (am_cur_of (i := (109, 1, .iconst 0, (0, 0, 0), 0)) (by decide +kernel)) (by decide) hm_z
        replace hm_z := rn_iaload (N := 12) (q := 0) (v := Hd) (am_cur_of (i := (110, 1, .iaload, (0, 0, 0), 0)) (by decide +kernel)) (by decide +kernel) rfl eH3 hm_z
        obtain ⟨p369_z, hm_z⟩ := hm_z
        replace hm_z := rn_goto (am_cur_of (i := (111, 3, .goto 12, (72, 0, 0), 0)) (by decide +kernel)) hm_z
        replace hm_z := rn_iret (am_cur_of (i := (123, 1, .ireturn, (0, 0, 0), 0)) (by decide +kernel)) hm_z
        obtain ⟨e370_z, e371_z⟩ := hm_z
        refine ⟨_, e370_z, ?_, by rw [e371_z]; exact k3_z⟩
        unfold secZ
        rw [if_neg b362_z.1, ← xe]
        omega
    · replace b362_z : pm = (0 : Int32) ∧ pm.toInt = (0 : Int32).toInt := b362_z
      replace hm_z := rn_iload (am_cur_of (i := (84, 2, .iload 6, (0, 0, 0), 0)) (by decide +kernel)) g6_z hm_z
      replace hm_z := rn_iret (am_cur_of (i := (86, 1, .ireturn, (0, 0, 0), 0)) (by decide +kernel)) hm_z
      obtain ⟨e372_z, e373_z⟩ := hm_z
      refine ⟨_, e372_z, ?_, by rw [e373_z]; exact k3_z⟩
      unfold secZ
      rw [if_pos b362_z.1, ← xe]
      omega
theorem as_199_1 {n p : Nat} {r : Option Value} {h0_z g g' : am_H} {bd pm F S Hd pf U ra re nl ls pt mo : Int32} (hL : LW p h0_z g) (eF : rg_v g 188 bd.toNatClampNeg = F) (eS : rg_v g 189 bd.toNatClampNeg = S) (eH : rg_v g 168 0 = Hd) (ePf : rg_v g 168 2 = pf) (eU : rg_v g 164 61 = U) (eRa : rg_v g 164 62 = ra) (eRe : rg_v g 164 58 = re) (eNl : rg_v g 164 60 = nl) (eLs : rg_v g 164 14 = ls) (ePt : rg_v g 164 57 = pt) (emo : leM ra re nl ls pt (fun q => rg_v g 174 q) = mo) (H0 : 0 ≤ Hd.toInt) (H9 : Hd.toInt ≤ 9999) (p0_z : 0 ≤ pf.toInt) (p9_z : pf.toInt ≤ 9999) (m0_z : 0 ≤ mo.toInt) (m9_z : mo.toInt ≤ 999) (F0 : 0 ≤ F.toInt) (F9 : F.toInt ≤ 99999) (hm_z : rn n am_m199 0 (lv_args 0 [.ref 164, .int bd, .int 1, .int pm]) [] g r g') : ∃ x : Int32, x.toInt = secZ p h0_z U Hd pm pf mo 1 F S ∧ rg_v g' 188 bd.toNatClampNeg = x ∧ rg_v g' 189 bd.toNatClampNeg = S + 1 ∧ ∀ o q, ¬ (o = 164 ∧ q = 49) → ¬ o = 187 → ¬ o = 186 → ¬ (o = 188 ∧ q = bd.toNatClampNeg) → ¬ (o = 189 ∧ q = bd.toNatClampNeg) → g' o q = g o q := by
  have g0_z : am_get (lv_args 0 [.ref 164, .int bd, .int 1, .int pm]) 0 = some (.ref 164) := rfl
  have g1_z : am_get (lv_args 0 [.ref 164, .int bd, .int 1, .int pm]) 1 = some (.int bd) := rfl
  have g2_z : am_get (lv_args 0 [.ref 164, .int bd, .int 1, .int pm]) 2 = some (.int 1) := rfl
  have g3_z : am_get (lv_args 0 [.ref 164, .int bd, .int 1, .int pm]) 3 = some (.int pm) := rfl
  replace hm_z := rn_aload_n (am_cur_of (i := (0, 1, .aload_n 0, (0, 0, 0), 0)) (by decide +kernel)) g0_z hm_z
  replace hm_z := rn_getR (x := 188) (am_cur_of (i := (1, 3, .getfield 85, (12, 50, 1434), 0)) (by decide +kernel)) (by decide +kernel) hm_z
  replace hm_z := rn_iload_n (am_cur_of (i := (4, 1, .iload_n 1, (0, 0, 0), 0)) (by decide +kernel)) g1_z hm_z
  replace hm_z := rn_aload_n (am_cur_of (i := (5, 1, .aload_n 0, (0, 0, 0), 0)) (by decide +kernel)) g0_z hm_z
  replace hm_z := rn_iload_n (am_cur_of (i := (6, 1, .iload_n 1, (0, 0, 0), 0)) (by decide +kernel)) g1_z hm_z
  replace hm_z := rn_iload_n (am_cur_of (i := (7, 1, .iload_n 2, (0, 0, 0), 0)) (by decide +kernel)) g2_z hm_z
  replace hm_z := rn_iload_n (am_cur_of (i := (8, 1, .iload_n 3, (0, 0, 0), 0)) (by decide +kernel)) g3_z hm_z
  replace hm_z := rn_callV (M' := am_m200) (o := 164) (ar := [.int pm, .int 1, .int bd]) (rest := [.int bd, .ref 188]) (L := lv_args 0 [.ref 164, .int bd, .int 1, .int pm]) (am_cur_of (i := (9, 3, .invokevirtual 409, (200, 1832, 3), 0)) (by decide +kernel)) rfl rfl rfl rfl hm_z
  obtain ⟨r374_z, h375_z, q376_z, hm_z⟩ := hm_z
  obtain ⟨x, rr, xe, k1_z⟩ := fn_200_1 hL eF eS eH ePf eU eRa eRe eNl eLs ePt emo H0 H9 p0_z p9_z m0_z m9_z F0 F9 q376_z
  subst rr
  have eS1 := (mk_v (o := 189) (q := bd.toNatClampNeg) k1_z (by omega) (by decide) (by decide)).trans eS
  replace hm_z : rn _ _ _ _ [.int x, .int bd, .ref 188] _ _ _ := hm_z
  replace hm_z := rn_iastore (N := 4) (q := bd.toNatClampNeg) (am_cur_of (i := (12, 1, .iastore, (0, 0, 0), 0)) (by decide +kernel)) (by decide +kernel) rfl hm_z
  obtain ⟨p377_z, hm_z⟩ := hm_z
  replace hm_z := rn_aload_n (am_cur_of (i := (13, 1, .aload_n 0, (0, 0, 0), 0)) (by decide +kernel)) g0_z hm_z
  replace hm_z := rn_getR (x := 189) (am_cur_of (i := (14, 3, .getfield 88, (12, 51, 1435), 0)) (by decide +kernel)) (by decide +kernel) hm_z
  replace hm_z := rn_iload_n (am_cur_of (i := (17, 1, .iload_n 1, (0, 0, 0), 0)) (by decide +kernel)) g1_z hm_z
  replace hm_z := rn_dup2 (am_cur_of (i := (18, 1, .dup2, (0, 0, 0), 0)) (by decide +kernel)) hm_z
  replace hm_z := rn_iaload (N := 4) (q := bd.toNatClampNeg) (v := S) (am_cur_of (i := (19, 1, .iaload, (0, 0, 0), 0)) (by decide +kernel)) (by decide +kernel) rfl ((rg_v_other (by omega)).trans (eS1)) hm_z
  obtain ⟨p378_z, hm_z⟩ := hm_z
  replace hm_z := rn_iconst (w := 1) (am_cur_of (i := (20, 1, .iconst 1, (0, 0, 0), 0)) (by decide +kernel)) (by decide) hm_z
  replace hm_z := rn_iadd (w := S + 1) (am_cur_of (i := (21, 1, .iadd, (0, 0, 0), 0)) (by decide +kernel)) rfl hm_z
  replace hm_z := rn_iastore (N := 4) (q := bd.toNatClampNeg) (am_cur_of (i := (22, 1, .iastore, (0, 0, 0), 0)) (by decide +kernel)) (by decide +kernel) rfl hm_z
  obtain ⟨p379_z, hm_z⟩ := hm_z
  replace hm_z := rn_vret (am_cur_of (i := (23, 1, .return_, (0, 0, 0), 0)) (by decide +kernel)) hm_z
  obtain ⟨e380_z, e381_z⟩ := hm_z
  refine ⟨x, xe, ?_, ?_, fun o q a_ b_ c_ d_ e_ => ?_⟩
  · rw [e381_z]
    exact (rg_v_other (by omega)).trans rg_v_self
  · rw [e381_z]
    exact rg_v_self
  · rw [e381_z]
    exact (up_ne e_).trans ((up_ne d_).trans (k1_z o q a_ b_ c_))
