/-! ===== AN INSTRUCTION, WHATEVER IT IS ===== -/
def ab_pl (T : ab_T) (mdo : List (Nat × Nat)) (M : am_M) (k : Nat) (i : am_I) (r : List am_I) (F : ab_F) : Option (List ab_O) := cond (ab_nx i r) (match ab_tr1 T mdo M i F with
  | some q => some [(k + 1, q.1, q.2)]
  | none => none) none
def ab_out (T : ab_T) (mdo md : List (Nat × Nat)) (cl : List ab_Sm) (M : am_M) (k : Nat) (i : am_I) (r : List am_I) (F : ab_F) : Option (List ab_O) := match i.2.2.1 with
  | .goto off => cond (ab_tg M i.2.2.2.1.1 (i.1 + off)) (some [(i.2.2.2.1.1, F, ab_e0)]) none
  | .ifCond c off => cond (ab_nx i r && ab_tg M i.2.2.2.1.1 (i.1 + off)) (match F.2.1 with
      | e :: es => cond (ab_is0 e) (some (ab_two2 k i.2.2.2.1.1 c (F.1, es, F.2.2) e ab_z)) none
      | [] => none) none
  | .if_icmp c off => cond (ab_nx i r && ab_tg M i.2.2.2.1.1 (i.1 + off)) (match F.2.1 with
      | d :: e :: es => cond (ab_is0 e && ab_is0 d) (some (ab_two2 k i.2.2.2.1.1 c (F.1, es, F.2.2) e d)) none
      | _ => none) none
  | .tableswitch d lo hi offs => match F.2.1 with
      | e :: es => cond (ab_is0 e) (ab_sw M i.1 (F.1, es, F.2.2) e d lo hi offs) none
      | [] => none
  | .invokevirtual _ => cond (ab_nx i r) (match i.2.2.2.1.2.2 with
      | 0 => none
      | _ + 1 => ab_call md cl M k i.2.2.2.1.1 false F) none
  | .invokespecial _ => cond (ab_nx i r) (match i.2.2.2.1.2.2 with
      | 0 => none
      | _ + 1 => ab_call md cl M k i.2.2.2.1.1 false F) none
  | .invokestatic _ => match i.2.2.2.1.2.2 with
      | 0 => none
      | 1 => ab_pl T mdo M k i r F
      | 2 => ab_pl T mdo M k i r F
      | _ + 3 => cond (ab_nx i r) (ab_call md cl M k i.2.2.2.1.1 true F) none
  | .getfield _ => cond (ab_nx i r) (match ab_tr1 T mdo M i F with
      | some q => some ((ab_spl q.1).map (fun G => (k + 1, G, q.2)))
      | none => none) none
  | _ => ab_pl T mdo M k i r F
section ABT
variable {T : ab_T} {J : am_H → Prop} {md mdo : List (Nat × Nat)} {cl : List ab_Sm} {M : am_M} {k : Nat} {i : am_I} {r : List am_I} {ls : am_L} {st : List Value} {h : am_H} {nc ns : Nat} {F : ab_F} {outs : List ab_O}
theorem ab_Go_md (hm : ab_mdle mdo md = true) (hg : ab_Go T J mdo am_G0 M k ls st h nc ns outs) : ab_Go T J md am_G0 M k ls st h nc ns outs := by
  obtain ⟨t, F', E, ls', st', h', h1, h2, h3, h4, h5, h6⟩ := hg
  exact ⟨t, F', E, ls', st', h', h1, h2, h3, h4, ab_mdle_Fr hm h5, h6⟩
theorem ab_pl_ok (hm : ab_mdle mdo md = true) (hJm : ∀ h h', ab_Fr mdo h h' → J h → J h') (hc : M.2.2.2.drop k = i :: r) (hr : (Nat.ble nc M.2.2.1.2.2.1 && Nat.ble ns M.2.2.1.2.2.2) = true) (hI : ab_Inv (ab_hi T) h) (hJ : J h) (hF : ab_gF F ls st h) (ho : ab_pl T mdo M k i r F = some outs) : ab_Go T J md am_G0 M k ls st h nc ns outs := by
  unfold ab_pl at ho
  cases hx : ab_nx i r with
  | false => rw [hx] at ho; cases ho
  | true =>
    rw [hx, cond_true] at ho
    split at ho
    · rename_i q hq
      cases ho
      exact ab_Go_md hm (ab_Go_tr hc hx (fun h' hf => hJm h h' hf hJ) (ab_tr1_ok rfl hr hI hF hq))
    · cases ho
set_option maxHeartbeats 4000000 in
theorem ab_out_ok (hm : ab_mdle mdo md = true) (hJm : ∀ h h', ab_Fr mdo h h' → J h → J h') (hS : ∀ s ∈ cl, ab_Con T J s) (hc : M.2.2.2.drop k = i :: r) (hr : (Nat.ble nc M.2.2.1.2.2.1 && Nat.ble ns M.2.2.1.2.2.2) = true) (hI : ab_Inv (ab_hi T) h) (hJ : J h) (hF : ab_gF F ls st h) (ho : ab_out T mdo md cl M k i r F = some outs) : ab_Go T J md am_G0 M k ls st h nc ns outs := by
  obtain ⟨pc, len, op, ⟨a, b, c⟩, z⟩ := i
  cases op
  case goto off =>
    replace ho : cond (ab_tg M a (pc + off)) (some [(a, F, ab_e0)]) none = some outs := ho
    cases ht : ab_tg M a (pc + off) with
    | false => rw [ht] at ho; cases ho
    | true =>
      rw [ht] at ho
      cases ho
      exact ab_Go_goto hc ht hI hJ hF
  case ifCond cc off =>
    replace ho : cond (ab_nx (pc, len, .ifCond cc off, (a, b, c), z) r && ab_tg M a (pc + off)) (match F.2.1 with
      | e :: es => cond (ab_is0 e) (some (ab_two2 k a cc (F.1, es, F.2.2) e ab_z)) none
      | [] => none) none = some outs := ho
    cases hb : (ab_nx (pc, len, .ifCond cc off, (a, b, c), z) r && ab_tg M a (pc + off)) with
    | false => rw [hb] at ho; cases ho
    | true =>
      rw [hb, cond_true] at ho
      rw [Bool.and_eq_true] at hb
      split at ho
      · rename_i e es hst
        cases h0 : ab_is0 e with
        | false => rw [h0] at ho; cases ho
        | true =>
          rw [h0] at ho
          cases ho
          exact ab_Go_if hc hb.1 hb.2 hst h0 hI hJ hF
      · cases ho
  case if_icmp cc off =>
    replace ho : cond (ab_nx (pc, len, .if_icmp cc off, (a, b, c), z) r && ab_tg M a (pc + off)) (match F.2.1 with
      | d :: e :: es => cond (ab_is0 e && ab_is0 d) (some (ab_two2 k a cc (F.1, es, F.2.2) e d)) none
      | _ => none) none = some outs := ho
    cases hb : (ab_nx (pc, len, .if_icmp cc off, (a, b, c), z) r && ab_tg M a (pc + off)) with
    | false => rw [hb] at ho; cases ho
    | true =>
      rw [hb, cond_true] at ho
      rw [Bool.and_eq_true] at hb
      split at ho
      · rename_i d e es hst
        cases h0 : (ab_is0 e && ab_is0 d) with
        | false => rw [h0] at ho; cases ho
        | true =>
          rw [h0] at ho
          rw [Bool.and_eq_true] at h0
          cases ho
          exact ab_Go_icmp hc hb.1 hb.2 hst h0.1 h0.2 hI hJ hF
      · cases ho
  case tableswitch d lo hi offs =>
    replace ho : (match F.2.1 with
      | e :: es => cond (ab_is0 e) (ab_sw M pc (F.1, es, F.2.2) e d lo hi offs) none
      | [] => none) = some outs := ho
    split at ho
    · rename_i e es hst
      cases h0 : ab_is0 e with
      | false => rw [h0] at ho; cases ho
      | true =>
        rw [h0] at ho
        exact ab_Go_sw hc hst h0 ho hI hJ hF
    · cases ho
  case invokevirtual idx =>
    replace ho : cond (ab_nx (pc, len, .invokevirtual idx, (a, b, c), z) r) (match c with
      | 0 => none
      | _ + 1 => ab_call md cl M k a false F) none = some outs := ho
    cases hx : ab_nx (pc, len, .invokevirtual idx, (a, b, c), z) r with
    | false => rw [hx] at ho; cases ho
    | true =>
      rw [hx, cond_true] at ho
      cases c with
      | zero => cases ho
      | succ c => exact ab_Go_callV hc hx hS hr hI hJ hF ho
  case invokespecial idx =>
    replace ho : cond (ab_nx (pc, len, .invokespecial idx, (a, b, c), z) r) (match c with
      | 0 => none
      | _ + 1 => ab_call md cl M k a false F) none = some outs := ho
    cases hx : ab_nx (pc, len, .invokespecial idx, (a, b, c), z) r with
    | false => rw [hx] at ho; cases ho
    | true =>
      rw [hx, cond_true] at ho
      cases c with
      | zero => cases ho
      | succ c => exact ab_Go_callI hc hx hS hr hI hJ hF ho
  case invokestatic idx =>
    match c, hc, ho with
    | 0, hc, ho => cases ho
    | 1, hc, ho => exact ab_pl_ok hm hJm hc hr hI hJ hF ho
    | 2, hc, ho => exact ab_pl_ok hm hJm hc hr hI hJ hF ho
    | c + 3, hc, ho =>
      replace ho : cond (ab_nx (pc, len, .invokestatic idx, (a, b, c + 3), z) r) (ab_call md cl M k a true F) none = some outs := ho
      cases hx : ab_nx (pc, len, .invokestatic idx, (a, b, c + 3), z) r with
      | false => rw [hx] at ho; cases ho
      | true =>
        rw [hx, cond_true] at ho
        exact ab_Go_callS hc hx hS hr hI hJ hF ho
  case getfield idx =>
    replace ho : cond (ab_nx (pc, len, .getfield idx, (a, b, c), z) r) (match ab_tr1 T mdo M (pc, len, .getfield idx, (a, b, c), z) F with
      | some q => some ((ab_spl q.1).map (fun G => (k + 1, G, q.2)))
      | none => none) none = some outs := ho
    cases hx : ab_nx (pc, len, .getfield idx, (a, b, c), z) r with
    | false => rw [hx] at ho; cases ho
    | true =>
      rw [hx, cond_true] at ho
      split at ho
      · rename_i q hq
        cases ho
        obtain ⟨t, F', E, ls', st', h', h1, h2, h3, h4, h5, h6, h7⟩ := ab_Go_md hm (ab_Go_tr hc hx (fun h' hf => hJm h h' hf hJ) (ab_tr1_ok rfl hr hI hF hq))
        have e1 := List.mem_singleton.mp h1
        cases e1
        obtain ⟨F2, hF2, hg2⟩ := ab_spl_ok h2
        exact ⟨k + 1, F2, q.2, ls', st', h', List.mem_map.mpr ⟨F2, hF2, rfl⟩, hg2, h3, h4, h5, h6, h7⟩
      · cases ho
  all_goals exact ab_pl_ok hm hJm hc hr hI hJ hF ho
end ABT
