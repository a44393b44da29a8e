/-! ===== THE KEPT PLAN STAYS WHILE A TEXT IS READ (wip/r/gen99re.py) ===== -/
/-- what of the model holds the kept text: these places stay while a text is read -/
def zmB (o k : Nat) : Bool := match o with
  | 164 => !(Nat.ble 12 k && Nat.ble k 15)
  | 168 => Nat.ble 6 k
  | 169 => Nat.ble 4 k
  | 170 => Nat.ble 28 k
  | 171 => Nat.ble 8 k
  | 172 => Nat.ble 8 k
  | 173 => Nat.ble 6 k
  | 174 => Nat.ble 6 k
  | 175 => Nat.ble 3 k
  | 176 => Nat.ble 3 k
  | 177 => Nat.ble 3 k
  | _ => true
def zcB (p o : Nat) : Bool := !((Nat.ble p o && Nat.ble o (p + 8)) || (Nat.ble (p + 17) o && Nat.ble o (p + 20)))
def zC (p : Nat) (h h' : am_H) : Prop := ∀ o k, zcB p o = false → ¬ (o = p ∧ k = 18) → rg_v h' o k = rg_v h o k
def zM (g g' : am_H) : Prop := ∀ o k, zmB o k = false → rg_v g' o k = rg_v g o k
theorem zC_r {p : Nat} {h : am_H} : zC p h h := fun _ _ _ _ => rfl
theorem zM_r {h : am_H} : zM h h := fun _ _ _ => rfl
theorem zC_t {p : Nat} {h h' h'' : am_H} (a : zC p h h') (b : zC p h' h'') : zC p h h'' := fun o k e f => (b o k e f).trans (a o k e f)
theorem zM_t {h h' h'' : am_H} (a : zM h h') (b : zM h' h'') : zM h h'' := fun o k e => (b o k e).trans (a o k e)
theorem zC_u {p : Nat} {h h' : am_H} {o k : Nat} {v : Value} (hb_z : zcB p o = true) (a : zC p h h') : zC p h (am_up h' o k v) := fun o' k' e f => (rg_v_other (fun q => by rw [q.1, hb_z] at e; cases e)).trans (a o' k' e f)
theorem zM_u {g g' : am_H} {o k : Nat} {v : Value} (hb_z : zmB o k = true) (a : zM g g') : zM g (am_up g' o k v) := fun o' k' e => (rg_v_other (fun q => by rw [q.1, q.2, hb_z] at e; cases e)).trans (a o' k' e)
theorem zC_fr {p : Nat} {md : List (Nat × Nat)} {h h' : am_H} (hb_z : md.all (fun q => zcB p q.1) = true) (hf_z : ab_Fr md h h') : zC p h h' := by
  intro o k e _
  refine rg_v_fr hf_z ?_
  cases q : ab_in md o k with
  | false => rfl
  | true =>
    obtain ⟨w, hw_z, hq_z⟩ := List.any_eq_true.mp q
    rw [Bool.and_eq_true] at hq_z
    have e1_z := Nat.eq_of_beq_eq_true hq_z.1
    have e2_z := List.all_eq_true.mp hb_z w hw_z
    rw [e1_z, e] at e2_z
    cases e2_z
def zmQ (q : Nat × Nat) : Bool := match q.2 with
  | 0 => !(Nat.beq q.1 164) && !(Nat.ble 168 q.1 && Nat.ble q.1 177)
  | k + 1 => zmB q.1 k
theorem zmB_o {o k : Nat} (e : zmB o k = false) : (o = 164 ∧ 12 ≤ k ∧ k ≤ 15) ∨ (168 ≤ o ∧ o ≤ 177) := by
  unfold zmB at e
  split at e
  · refine Or.inl ⟨rfl, ?_⟩
    rw [Bool.not_eq_false', Bool.and_eq_true] at e
    exact ⟨Nat.le_of_ble_eq_true e.1, Nat.le_of_ble_eq_true e.2⟩
  all_goals first | (exact Or.inr (by decide)) | cases e
theorem zM_fr {md : List (Nat × Nat)} {h h' : am_H} (hb_z : md.all zmQ = true) (hf_z : ab_Fr md h h') : zM h h' := by
  intro o k e
  refine rg_v_fr hf_z ?_
  cases q : ab_in md o k with
  | false => rfl
  | true =>
    obtain ⟨⟨a, b⟩, hw_z, hq_z⟩ := List.any_eq_true.mp q
    rw [Bool.and_eq_true, Bool.or_eq_true] at hq_z
    have e1_z := Nat.eq_of_beq_eq_true hq_z.1
    have e2_z := List.all_eq_true.mp hb_z _ hw_z
    dsimp only at e1_z
    subst e1_z
    unfold zmQ at e2_z
    dsimp only at e2_z hq_z
    rcases hq_z.2 with h0_z | h0_z
    · have := Nat.eq_of_beq_eq_true h0_z
      subst this
      simp only [Bool.and_eq_true, Bool.not_eq_true'] at e2_z
      have n1_z : ¬ a = 164 := fun z => by rw [z] at e2_z; exact absurd e2_z.1 (by decide)
      rcases zmB_o e with z | z
      · exact absurd z.1 n1_z
      · have e3_z := e2_z.2
        rw [Nat.ble_eq_true_of_le z.1, Nat.ble_eq_true_of_le z.2] at e3_z
        cases e3_z
    · have := Nat.eq_of_beq_eq_true h0_z
      subst this
      simp only at e2_z
      rw [e2_z] at e
      cases e
theorem zC_x {p : Nat} {h h' : am_H} (hp_z : p = 2 ∨ p = 23) (a : rx_C h h') : zC p h h' := by
  intro o k e _
  refine rx_v a ?_
  intro q
  subst q
  rcases hp_z with rfl | rfl <;> exact absurd e (by decide)
theorem zM_x {h h' : am_H} (a : rx_M h h') : zM h h' := by
  intro o k e
  rcases zmB_o e with q | q
  · exact rx_w a (by omega) (by omega)
  · exact rx_w a (by omega) (by omega)
/-- a kept blower's number k of the model -/
def rK_bm (g : am_H) (b k : Nat) : Int32 := if k = 0 then rg_v g 169 b else rg_v g 170 (7 * b + (k - 1))
def rK_C (p : Nat) (h g : am_H) (b : Nat) : Prop := (b : Int) < (rg_v h p 2).toInt → ∀ k, k < 8 → rg_v h (p + 17 + b) k = rK_bm g b k
/-- the kept plan: the class's at p, the model's lower halves -/
def rK (p : Nat) (h g : am_H) : Prop :=
  (rg_v h p 0 = rg_v g 168 0 ∧ rg_v h p 1 = rg_v g 168 1 ∧ rg_v h p 7 = rg_v g 168 2 ∧ rg_v h p 8 = rg_v g 168 3 ∧ rg_v h p 16 = rg_v g 168 4 ∧ rg_v h p 17 = rg_v g 168 5)
  ∧ (rg_v h p 2 = rg_v g 164 12 ∧ 0 ≤ (rg_v h p 2).toInt ∧ (rg_v h p 2).toInt ≤ 4) ∧ (rg_v h p 4 = rg_v g 164 13 ∧ 0 ≤ (rg_v h p 4).toInt ∧ (rg_v h p 4).toInt ≤ 8)
  ∧ (rg_v h p 9 = rg_v g 164 14 ∧ 0 ≤ (rg_v h p 9).toInt ∧ (rg_v h p 9).toInt ≤ 6) ∧ (rg_v h p 12 = rg_v g 164 15 ∧ 0 ≤ (rg_v h p 12).toInt ∧ (rg_v h p 12).toInt ≤ 3)
  ∧ (rK_C p h g 0 ∧ rK_C p h g 1 ∧ rK_C p h g 2 ∧ rK_C p h g 3)
  ∧ (∀ t : Nat, (t : Int) < (rg_v h p 4).toInt → rg_v h (p + 2) t = rg_v g 171 t ∧ rg_v h (p + 3) t = rg_v g 172 t)
  ∧ (∀ t : Nat, (t : Int) < (rg_v h p 9).toInt → rg_v h (p + 4) t = rg_v g 173 t ∧ rg_v h (p + 5) t = rg_v g 174 t)
  ∧ (∀ t : Nat, (t : Int) < (rg_v h p 12).toInt → rg_v h (p + 6) t = rg_v g 175 t ∧ rg_v h (p + 7) t = rg_v g 176 t ∧ rg_v h (p + 8) t = rg_v g 177 t)
theorem zcB_i {p i : Nat} (hi_z : i ≤ 8 ∨ (17 ≤ i ∧ i ≤ 20)) : zcB p (p + i) = false := by
  unfold zcB
  rcases hi_z with h | ⟨h, h2_z⟩
  · rw [Nat.ble_eq_true_of_le (Nat.le_add_right p i), Nat.ble_eq_true_of_le (show p + i ≤ p + 8 by omega)]
    rfl
  · rw [Nat.ble_eq_true_of_le (show p + 17 ≤ p + i by omega), Nat.ble_eq_true_of_le (show p + i ≤ p + 20 by omega), Bool.and_self, Bool.or_true]
    rfl
theorem rK_c {p : Nat} {h h' g : am_H} (a : zC p h h') (K : rK p h g) : rK p h' g := by
  have e0_z : ∀ k, ¬ k = 18 → rg_v h' p k = rg_v h p k := fun k hk_z => a p k (zcB_i (i := 0) (Or.inl (by decide))) (fun q => hk_z q.2)
  have e : ∀ i k, ((1 ≤ i ∧ i ≤ 8) ∨ (17 ≤ i ∧ i ≤ 20)) → rg_v h' (p + i) k = rg_v h (p + i) k := fun i k hi_z => a (p + i) k (zcB_i (by omega)) (fun q => by omega)
  obtain ⟨⟨a1_z, a2_z, a3_z, a4_z, a5_z, a6_z⟩, ⟨n1_z, n2_z, n3_z⟩, ⟨t1_z, t2_z, t3_z⟩, ⟨l1_z, l2_z, l3_z⟩, ⟨r1_z, r2_z, r3_z⟩, ⟨C0, C1, C2, C3⟩, D, E, G⟩ := K
  have hC : ∀ b, b ≤ 3 → rK_C p h g b → rK_C p h' g b := by
    intro b hb3_z C hb_z k hk_z
    rw [e0_z 2 (by decide)] at hb_z
    rw [show p + 17 + b = p + (17 + b) by omega, e _ k (by omega), show p + (17 + b) = p + 17 + b by omega]
    exact C hb_z k hk_z
  unfold rK
  rw [e0_z 0 (by decide), e0_z 1 (by decide), e0_z 2 (by decide), e0_z 4 (by decide), e0_z 7 (by decide), e0_z 8 (by decide), e0_z 9 (by decide), e0_z 12 (by decide), e0_z 16 (by decide), e0_z 17 (by decide)]
  refine ⟨⟨a1_z, a2_z, a3_z, a4_z, a5_z, a6_z⟩, ⟨n1_z, n2_z, n3_z⟩, ⟨t1_z, t2_z, t3_z⟩, ⟨l1_z, l2_z, l3_z⟩, ⟨r1_z, r2_z, r3_z⟩, ⟨hC 0 (by decide) C0, hC 1 (by decide) C1, hC 2 (by decide) C2, hC 3 (by decide) C3⟩, ?_, ?_, ?_⟩
  · intro t ht
    rw [e 2 t (by decide), e 3 t (by decide)]
    exact D t ht
  · intro t ht
    rw [e 4 t (by decide), e 5 t (by decide)]
    exact E t ht
  · intro t ht
    rw [e 6 t (by decide), e 7 t (by decide), e 8 t (by decide)]
    exact G t ht
theorem zmB_lt {o k n : Nat} (ho : zmB o k = Nat.ble n k) (hk_z : k < n) : zmB o k = false := by
  rw [ho]
  cases q : Nat.ble n k with
  | false => rfl
  | true => exact absurd (Nat.le_of_ble_eq_true q) (by omega)
theorem rK_m {p : Nat} {h g g' : am_H} (a : zM g g') (K : rK p h g) : rK p h g' := by
  obtain ⟨⟨a1_z, a2_z, a3_z, a4_z, a5_z, a6_z⟩, ⟨n1_z, n2_z, n3_z⟩, ⟨t1_z, t2_z, t3_z⟩, ⟨l1_z, l2_z, l3_z⟩, ⟨r1_z, r2_z, r3_z⟩, ⟨C0, C1, C2, C3⟩, D, E, G⟩ := K
  have hC : ∀ b, b ≤ 3 → rK_C p h g b → rK_C p h g' b := by
    intro b hb3_z C hb_z k hk_z
    have := C hb_z k hk_z
    unfold rK_bm at this ⊢
    rw [a 169 b (zmB_lt (n := 4) rfl (by omega)), a 170 _ (zmB_lt (n := 28) rfl (by omega))]
    exact this
  unfold rK
  rw [a 168 0 (by decide), a 168 1 (by decide), a 168 2 (by decide), a 168 3 (by decide), a 168 4 (by decide), a 168 5 (by decide), a 164 12 (by decide), a 164 13 (by decide), a 164 14 (by decide), a 164 15 (by decide)]
  refine ⟨⟨a1_z, a2_z, a3_z, a4_z, a5_z, a6_z⟩, ⟨n1_z, n2_z, n3_z⟩, ⟨t1_z, t2_z, t3_z⟩, ⟨l1_z, l2_z, l3_z⟩, ⟨r1_z, r2_z, r3_z⟩, ⟨hC 0 (by decide) C0, hC 1 (by decide) C1, hC 2 (by decide) C2, hC 3 (by decide) C3⟩, ?_, ?_, ?_⟩
  · intro t ht
    rw [a 171 t (zmB_lt (n := 8) rfl (by omega)), a 172 t (zmB_lt (n := 8) rfl (by omega))]
    exact D t ht
  · intro t ht
    rw [a 173 t (zmB_lt (n := 6) rfl (by omega)), a 174 t (zmB_lt (n := 6) rfl (by omega))]
    exact E t ht
  · intro t ht
    rw [a 175 t (zmB_lt (n := 3) rfl (by omega)), a 176 t (zmB_lt (n := 3) rfl (by omega)), a 177 t (zmB_lt (n := 3) rfl (by omega))]
    exact G t ht
/-- the model's methods that load no row of the plan -/
def mk_A (o : Nat) : Bool := Nat.beq o 164 || Nat.beq o 165 || Nat.beq o 166 || Nat.beq o 167 || (Nat.ble 178 o && Nat.ble o 185)
def mk_fl (ci_z f : Nat) : Bool := Nat.beq ci_z 12 && Nat.blt f (am_tys 12).length && !(Nat.ble 23 f && Nat.ble f 32) && Nat.ble f 46
def mk_ok (a : Nat) : Bool := (Nat.ble 151 a && Nat.ble a 156) || Nat.beq a 158 || (Nat.ble 160 a && Nat.ble a 162) || (Nat.ble 170 a && Nat.ble a 181)
def mk_w : ra_W := (mk_A, mk_fl, mk_ok)
set_option maxRecDepth 1000000 in
theorem mk_all : (List.range 256).all (ra_Mb mk_w) = true := by decide +kernel
def mk_cl (o : Nat) : Bool := !(mk_A o) || (match am_ks0[o]? with
  | some (.inl ci_z) => (List.range 48).all (fun f => !(mk_fl ci_z f) || (Nat.ble (rg_c o f) 2 || (Nat.ble 4 (rg_c o f) && mk_A (rg_c o f - 4))))
  | some (.inr (_, n)) => (List.range n).all (fun k => Nat.ble (rg_c o k) 2)
  | none => true)
set_option maxRecDepth 1000000 in
theorem mk_clall : (List.range 203).all mk_cl = true := by decide +kernel
theorem rg_gref {c n : Nat} {v : Value} (hg : rg_g c v) (e : v = .ref n) : c = 3 ∨ c = n + 4 := by
  subst e
  match c, hg with
  | 0, hg => obtain ⟨x, hx_z⟩ := hg; cases hx_z
  | 1, hg => rcases hg with hx_z | hx_z <;> cases hx_z
  | 2, hg => obtain ⟨x, hx_z⟩ := hg; cases hx_z
  | 3, _ => exact Or.inl rfl
  | m + 4, hg =>
    have : Value.ref n = Value.ref m := hg
    cases this
    exact Or.inr rfl
theorem mk_P {h : am_H} (hG : rg_Gd h) : ra_P mk_w h h := by
  have hb_z : ∀ o, am_ks0[o]? ≠ none → mk_cl o = true := by
    intro o ho
    have hl_z : o < am_ks0.length := by
      cases q : am_ks0[o]? with
      | none => exact absurd q ho
      | some kd => exact (List.getElem?_eq_some_iff.mp q).1
    rw [rg_len] at hl_z
    exact List.all_eq_true.mp mk_clall o (List.mem_range.mpr hl_z)
  refine ⟨fun o ci_z f n ho hk_z hf_z e => ?_, fun o ty N k n ho hk_z hN e => ?_, fun _ _ _ => rfl⟩
  · have q := hb_z o (by rw [hk_z]; exact fun z => by cases z)
    unfold mk_cl at q
    have ho' : mk_A o = true := ho
    have hf_z' : mk_fl ci_z f = true := hf_z
    rw [ho', hk_z] at q
    have hf2_z : Nat.ble f 46 = true ∧ Nat.blt f (am_tys 12).length = true ∧ Nat.beq ci_z 12 = true := by
      unfold mk_fl at hf_z'
      simp only [Bool.and_eq_true] at hf_z'
      exact ⟨hf_z'.2, hf_z'.1.1.2, hf_z'.1.1.1⟩
    have q2_z := List.all_eq_true.mp q f (List.mem_range.mpr (by have := Nat.le_of_ble_eq_true hf2_z.1; omega))
    rw [hf_z'] at q2_z
    have hci := Nat.eq_of_beq_eq_true hf2_z.2.2
    subst hci
    have hg := hG o f _ hk_z (Nat.le_of_ble_eq_true hf2_z.2.1)
    have q3_z : (Nat.ble (rg_c o f) 2 || (Nat.ble 4 (rg_c o f) && mk_A (rg_c o f - 4))) = true := q2_z
    rcases rg_gref hg e with c | c
    · rw [c] at q3_z
      exact absurd q3_z (by decide)
    · rw [c] at q3_z
      rw [Bool.or_eq_true, Bool.and_eq_true] at q3_z
      rcases q3_z with q3_z | q3_z
      · have := Nat.le_of_ble_eq_true q3_z
        omega
      · have q4_z := q3_z.2
        rw [Nat.add_sub_cancel] at q4_z
        exact q4_z
  · have q := hb_z o (by rw [hk_z]; exact fun z => by cases z)
    unfold mk_cl at q
    have ho' : mk_A o = true := ho
    rw [ho', hk_z] at q
    have q2_z := List.all_eq_true.mp q k (List.mem_range.mpr hN)
    have hg := hG o k _ hk_z hN
    have q3_z := Nat.le_of_ble_eq_true (show Nat.ble (rg_c o k) 2 = true from q2_z)
    rcases rg_gref hg e with c | c <;> omega
/-- fields of the model that stay -/
def mj_p (k : Nat) : Bool := (Nat.ble 12 k && Nat.ble k 15) || (Nat.ble 17 k && Nat.ble k 20)
def mj_w : rw_W := (fun ci_z f => !(Nat.beq (rg_cl ci_z f) 9) && !(Nat.beq ci_z 12 && mj_p f), true, mk_ok)
def mj_P (v : Nat → Int32) (h : am_H) : Prop := rg_Gd h ∧ ∀ k, mj_p k = true → rg_v h 164 k = v k
theorem mj_k164 : am_ks0[164]? = some (.inl 12) := by decide +kernel
theorem mj_wP (v : Nat → Int32) : rw_P mj_w (mj_P v) := by
  refine ⟨fun h o ci_z f u hP hk_z hc_z hf_z => ?_, fun _ h o r n ty u hP hk_z ht hq_z hf_z => ?_⟩
  · have hc_z' : (!(Nat.beq (rg_cl ci_z f) 9) && !(Nat.beq ci_z 12 && mj_p f)) = true := hc_z
    rw [Bool.and_eq_true] at hc_z'
    refine ⟨rn_wP.1 h o ci_z f u hP.1 hk_z hc_z'.1 hf_z, fun k hkp => ?_⟩
    rw [rg_v_other]
    · exact hP.2 k hkp
    · rintro ⟨e1_z, e2_z⟩
      subst e1_z; subst e2_z
      rw [mj_k164] at hk_z
      cases hk_z
      have z := hc_z'.2
      rw [hkp] at z
      exact absurd z (by decide)
  · have hne : ∀ k, ¬ ((164 : Nat) = o ∧ k = r) := by
      rintro k ⟨e1_z, -⟩
      subst e1_z
      rw [mj_k164] at hk_z
      cases hk_z
    exact ⟨rn_wP.2 rfl h o r n ty u hP.1 hk_z ht hq_z hf_z, fun k hkp => (rg_v_other (hne k)).trans (hP.2 k hkp)⟩
def mj_M (a : Nat) : Bool := !(mk_ok a) || (match am_prog[a]? with
  | some M => M.2.2.2.all (rw_I mj_w)
  | none => true)
set_option maxRecDepth 1000000 in
theorem mj_M_all : (List.range 256).all mj_M = true := by decide +kernel
theorem mj_K {a : Nat} {M : am_M} (ha_z : mk_ok a = true) (hM : am_prog[a]? = some M) : rw_K mj_w M.2.2.2 := by
  have hl_z : a < am_prog.length := (List.getElem?_eq_some_iff.mp hM).1
  rw [am_prog_len] at hl_z
  have hb_z := List.all_eq_true.mp mj_M_all a (List.mem_range.mpr (by omega))
  unfold mj_M at hb_z
  rw [ha_z, hM] at hb_z
  exact List.all_eq_true.mp hb_z
def kp (g g' : am_H) : Prop := zM g g' ∧ ∀ k, mj_p k = true → rg_v g' 164 k = rg_v g 164 k
theorem mk_Af {o : Nat} (a : 168 ≤ o) (b : o ≤ 177) : mk_w.1 o = false := by
  have h : o = 168 ∨ o = 169 ∨ o = 170 ∨ o = 171 ∨ o = 172 ∨ o = 173 ∨ o = 174 ∨ o = 175 ∨ o = 176 ∨ o = 177 := by omega
  rcases h with rfl | rfl | rfl | rfl | rfl | rfl | rfl | rfl | rfl | rfl <;> rfl
theorem kp_of {a n : Nat} {M : am_M} {as : List Value} {h h' : am_H} {r : Option Value} (ha_z : mk_ok a = true) (hM : am_prog[a]? = some M) (hs_z : ra_S mk_A as) (hr : rn n M 0 (lv_args 0 as) [] h r h') : kp h h' := by
  have f := ra_rn (w := mk_w) mk_all ha_z hM hs_z (mk_P (rn_G hr)) hr
  have c : ∀ k, mj_p k = true → rg_v h' 164 k = rg_v h 164 k := by
    obtain ⟨-, hG, nc, ns, m, -, hrun⟩ := hr
    exact (rw_run (mj_wP (fun k => rg_v h 164 k)) (fun a M ha_z hM => Or.inl (mj_K ha_z hM)) m M _ _ _ h nc ns _ (mj_K ha_z hM) (fun j hj_z => mj_K ha_z hM j (List.mem_of_mem_drop hj_z)) ⟨hG, fun _ _ => rfl⟩ hrun).2.2
  refine ⟨fun o k e => ?_, c⟩
  rcases zmB_o e with ⟨rfl, q1_z, q2_z⟩ | ⟨q1_z, q2_z⟩
  · refine c k ?_
    unfold mj_p
    rw [Nat.ble_eq_true_of_le q1_z, Nat.ble_eq_true_of_le q2_z]
    rfl
  · unfold rg_v
    rw [f o k (mk_Af q1_z q2_z)]
theorem rn_ret {n : Nat} {M : am_M} {k : Nat} {ls : am_L} {st : List Value} {h h' : am_H} {r : Option Value} {ty : FieldType} (hM : M.2.1.2.1 = some ty) (hl_z : ¬ ty = .long) (hr : rn n M k ls st h r h') : ∃ x : Int32, r = some (.int x) := by
  obtain ⟨-, -, nc, ns, m, -, hrun⟩ := hr
  have key : ∀ (m : Nat) (f : am_F) (r : am_O), am_run am_φ false m am_G0 M f = some r → ∃ x : Int32, r.1 = some (.int x) := by
    intro m
    induction m with
    | zero => intro f r h; cases h
    | succ m ih_z =>
      intro f r h
      rw [am_run_s] at h
      split at h
      · rename_i r0_z he
        cases h
        obtain ⟨cs, ls, st, ks, h, nc, ns⟩ := f
        unfold am_end at he
        split at he
        · cases he
        · rename_i heq
          cases heq
          split at he
          · split at he
            · split at he
              · rename_i x _ ty _
                generalize hb_z : am_fit ty _ = bb at he
                cases bb with
                | false => cases he
                | true =>
                  have he : am_ret M (some (.int x)) ks h nc ns = some r := he
                  unfold am_ret at he
                  cases hq_z : (Nat.ble nc M.2.2.1.2.2.1 && Nat.ble ns M.2.2.1.2.2.2) with
                  | false => rw [hq_z] at he; cases he
                  | true => rw [hq_z] at he; cases he; exact ⟨x, rfl⟩
              · cases he
            · cases he
          · split at he
            · rw [hM] at he
              split at he
              · rename_i e
                cases e
                exact absurd rfl hl_z
              · cases he
            · cases he
          · split at he
            · rw [hM] at he
              cases he
            · cases he
          · cases he
      · split at h
        · exact ih_z _ _ h
        · cases h
  exact key m _ _ hrun
/-- the counts of what is read -/
def cr (g : am_H) : Prop := (0 ≤ (rg_v g 164 17).toInt ∧ (rg_v g 164 17).toInt ≤ 4) ∧ (0 ≤ (rg_v g 164 18).toInt ∧ (rg_v g 164 18).toInt ≤ 8) ∧ (0 ≤ (rg_v g 164 19).toInt ∧ (rg_v g 164 19).toInt ≤ 6) ∧ (0 ≤ (rg_v g 164 20).toInt ∧ (rg_v g 164 20).toInt ≤ 3)
theorem cr_kp {g g' : am_H} (a : kp g g') (c : cr g) : cr g' := by
  unfold cr
  rw [a.2 17 (by decide), a.2 18 (by decide), a.2 19 (by decide), a.2 20 (by decide)]
  exact c
theorem mz_newB {n : Nat} {g g' : am_H} {r : Option Value} {cb : Int32} (n0_z : 0 ≤ cb.toInt) (n9_z : cb.toInt ≤ 9) (hm_z : rn n am_m164 0 (lv_args 0 [.ref 164, .ref 169, .int 4, .int cb]) [] g r g') : zM g g' ∧ rg_v g' 164 17 = rg_v g 164 17 ∧ rg_v g' 164 18 = rg_v g 164 18 ∧ rg_v g' 164 19 = rg_v g 164 19 ∧ rg_v g' 164 20 = rg_v g 164 20 := by
  have z0_z : (0 : Int32).toInt = 0 := by decide
  have z2_z : (2 : Int32).toInt = 2 := by decide
  have g0_z : am_get (lv_args 0 [.ref 164, .ref 169, .int 4, .int cb]) 0 = some (.ref 164) := rfl
  have g1_z : am_get (lv_args 0 [.ref 164, .ref 169, .int 4, .int cb]) 1 = some (.ref 169) := rfl
  have g2_z : am_get (lv_args 0 [.ref 164, .ref 169, .int 4, .int cb]) 2 = some (.int 4) := rfl
  have g3_z : am_get (lv_args 0 [.ref 164, .ref 169, .int 4, .int cb]) 3 = some (.int cb) := rfl
  have zf : (4 : Int32).toInt = 4 := by decide
  have cn := rt_cl n0_z
  have hfn := ab_iadd (x := 4) (y := cb) (by omega) (by omega)
  have cfn := rt_cl (x := 4 + cb) (by omega)
  replace hm_z := rn_aload_n (am_cur_of (i := (0, 1, .aload_n 0, (0, 0, 0), 0)) (by decide +kernel)) g0_z hm_z
  replace hm_z := rn_getI (v := rg_v g 164 8) (am_cur_of (i := (1, 3, .getfield 157, (12, 8, 1392), 0)) (by decide +kernel)) (by decide +kernel) rfl hm_z
  replace hm_z := rn_iconst (w := 2) (am_cur_of (i := (4, 1, .iconst 2, (0, 0, 0), 0)) (by decide +kernel)) (by decide) hm_z
  replace hm_z := rn_cmp (am_cur_of (i := (5, 3, .if_icmp .eq 9, (8, 0, 0), 0)) (by decide +kernel)) hm_z
  rcases hm_z with ⟨b1_z, hm_z⟩ | ⟨b1_z, hm_z⟩
  · replace b1_z : (rg_v g 164 8) = (2 : Int32) ∧ (rg_v g 164 8).toInt = (2 : Int32).toInt := b1_z
    replace hm_z := rn_aload_n (am_cur_of (i := (14, 1, .aload_n 1, (0, 0, 0), 0)) (by decide +kernel)) g1_z hm_z
    replace hm_z := rn_iload_n (am_cur_of (i := (15, 1, .iload_n 2, (0, 0, 0), 0)) (by decide +kernel)) g2_z hm_z
    replace hm_z := rn_iload_n (am_cur_of (i := (16, 1, .iload_n 3, (0, 0, 0), 0)) (by decide +kernel)) g3_z hm_z
    replace hm_z := rn_aload_n (am_cur_of (i := (17, 1, .aload_n 0, (0, 0, 0), 0)) (by decide +kernel)) g0_z hm_z
    replace hm_z := rn_getI (v := rg_v g 164 9) (am_cur_of (i := (18, 3, .getfield 168, (12, 9, 1393), 0)) (by decide +kernel)) (by decide +kernel) rfl hm_z
    replace hm_z := rn_callS (M' := am_m165) (ar := [.int (rg_v g 164 9), .int cb, .int 4, .ref 169]) (rest := []) (L := lv_args 0 [.ref 169, .int 4, .int cb, .int (rg_v g 164 9)]) (am_cur_of (i := (21, 3, .invokestatic 241, (165, 1692, 3), 0)) (by decide +kernel)) rfl rfl rfl rfl hm_z
    obtain ⟨r2_z, h3_z, q4_z, hm_z⟩ := hm_z
    obtain ⟨yy, i2_z, rfl, -⟩ := rp_find (N := 8) (by decide +kernel) (by decide) (by omega) (by decide) q4_z
    replace yy := yy.symm
    subst yy
    replace hm_z : rn _ _ _ _ [.int i2_z] _ _ _ := hm_z
    replace hm_z := rn_if (am_cur_of (i := (24, 3, .ifCond .lt 9, (19, 0, 0), 0)) (by decide +kernel)) hm_z
    rcases hm_z with ⟨b5_z, hm_z⟩ | ⟨b5_z, hm_z⟩
    · replace b5_z : i2_z.toInt < (0 : Int32).toInt := b5_z
      replace hm_z := rn_aload_n (am_cur_of (i := (33, 1, .aload_n 1, (0, 0, 0), 0)) (by decide +kernel)) g1_z hm_z
      replace hm_z := rn_iload_n (am_cur_of (i := (34, 1, .iload_n 2, (0, 0, 0), 0)) (by decide +kernel)) g2_z hm_z
      replace hm_z := rn_iload_n (am_cur_of (i := (35, 1, .iload_n 3, (0, 0, 0), 0)) (by decide +kernel)) g3_z hm_z
      replace hm_z := rn_iadd (w := (4 : Int32) + cb) (am_cur_of (i := (36, 1, .iadd, (0, 0, 0), 0)) (by decide +kernel)) rfl hm_z
      replace hm_z := rn_aload_n (am_cur_of (i := (37, 1, .aload_n 0, (0, 0, 0), 0)) (by decide +kernel)) g0_z hm_z
      replace hm_z := rn_getI (v := rg_v g 164 9) (am_cur_of (i := (38, 3, .getfield 168, (12, 9, 1393), 0)) (by decide +kernel)) (by decide +kernel) rfl hm_z
      replace hm_z := rn_iastore (N := 8) (q := ((4 : Int32) + cb).toNatClampNeg) (am_cur_of (i := (41, 1, .iastore, (0, 0, 0), 0)) (by decide +kernel)) (by decide +kernel) rfl hm_z
      obtain ⟨p6_z, hm_z⟩ := hm_z
      replace hm_z := rn_aload_n (am_cur_of (i := (42, 1, .aload_n 0, (0, 0, 0), 0)) (by decide +kernel)) g0_z hm_z
      replace hm_z := rn_callV (M' := am_m151) (o := 164) (ar := []) (rest := []) (L := lv_args 0 [.ref 164]) (am_cur_of (i := (43, 3, .invokevirtual 191, (151, 1636, 3), 0)) (by decide +kernel)) rfl rfl rfl rfl hm_z
      obtain ⟨r7_z, h8_z, q9_z, hm_z⟩ := hm_z
      have vo := rn_void rfl q9_z
      subst vo
      have K10 := kp_of (a := 151) (by decide) rfl (as := [.ref 164]) (ra_Sc (fun _ e => by cases e; rfl) ra_S0) q9_z
      have z10_z := zM_t (zM_u (o := 169) (k := ((4 : Int32) + cb).toNatClampNeg) (show Nat.ble 4 (((4 : Int32) + cb).toNatClampNeg) = true from Nat.ble_eq_true_of_le (by omega)) zM_r) K10.1
      have e17_10 : rg_v h8_z 164 17 = rg_v g 164 17 := (K10.2 17 (by decide)).trans (show rg_v (am_up g 169 (((4 : Int32) + cb).toNatClampNeg) (.int (rg_v g 164 9))) 164 17 = rg_v g 164 17 from rfl)
      have e18_10 : rg_v h8_z 164 18 = rg_v g 164 18 := (K10.2 18 (by decide)).trans (show rg_v (am_up g 169 (((4 : Int32) + cb).toNatClampNeg) (.int (rg_v g 164 9))) 164 18 = rg_v g 164 18 from rfl)
      have e19_10 : rg_v h8_z 164 19 = rg_v g 164 19 := (K10.2 19 (by decide)).trans (show rg_v (am_up g 169 (((4 : Int32) + cb).toNatClampNeg) (.int (rg_v g 164 9))) 164 19 = rg_v g 164 19 from rfl)
      have e20_10 : rg_v h8_z 164 20 = rg_v g 164 20 := (K10.2 20 (by decide)).trans (show rg_v (am_up g 169 (((4 : Int32) + cb).toNatClampNeg) (.int (rg_v g 164 9))) 164 20 = rg_v g 164 20 from rfl)
      replace hm_z : rn _ _ _ _ [] _ _ _ := hm_z
      replace hm_z := rn_iconst (w := 1) (am_cur_of (i := (46, 1, .iconst 1, (0, 0, 0), 0)) (by decide +kernel)) (by decide) hm_z
      replace hm_z := rn_iret (am_cur_of (i := (47, 1, .ireturn, (0, 0, 0), 0)) (by decide +kernel)) hm_z
      obtain ⟨e11_z, e12_z⟩ := hm_z
      rw [e12_z]
      refine ⟨z10_z, ?_⟩
      exact ⟨(show rg_v h8_z 164 17 = rg_v g 164 17 from e17_10), (show rg_v h8_z 164 18 = rg_v g 164 18 from e18_10), (show rg_v h8_z 164 19 = rg_v g 164 19 from e19_10), (show rg_v h8_z 164 20 = rg_v g 164 20 from e20_10)⟩
    · replace b5_z : (0 : Int32).toInt ≤ i2_z.toInt := b5_z
      replace hm_z := rn_aload_n (am_cur_of (i := (27, 1, .aload_n 0, (0, 0, 0), 0)) (by decide +kernel)) g0_z hm_z
      replace hm_z := rn_iconst (w := 3) (am_cur_of (i := (28, 1, .iconst 3, (0, 0, 0), 0)) (by decide +kernel)) (by decide) hm_z
      replace hm_z := rn_callV (M' := am_m158) (o := 164) (ar := [.int 3]) (rest := []) (L := lv_args 0 [.ref 164, .int 3]) (am_cur_of (i := (29, 3, .invokevirtual 181, (158, 1665, 3), 0)) (by decide +kernel)) rfl rfl rfl rfl hm_z
      obtain ⟨r13_z, h14_z, q15_z, hm_z⟩ := hm_z
      obtain ⟨v16_z, rfl⟩ := rn_ret (M := am_m158) rfl (by decide) q15_z
      have K16 := kp_of (a := 158) (by decide) rfl (as := [.ref 164, .int 3]) (ra_Sc (fun _ e => by cases e; rfl) (ra_Sc (ra_Vi) ra_S0)) q15_z
      have z16_z := zM_t zM_r K16.1
      have e17_16 : rg_v h14_z 164 17 = rg_v g 164 17 := (K16.2 17 (by decide)).trans rfl
      have e18_16 : rg_v h14_z 164 18 = rg_v g 164 18 := (K16.2 18 (by decide)).trans rfl
      have e19_16 : rg_v h14_z 164 19 = rg_v g 164 19 := (K16.2 19 (by decide)).trans rfl
      have e20_16 : rg_v h14_z 164 20 = rg_v g 164 20 := (K16.2 20 (by decide)).trans rfl
      replace hm_z : rn _ _ _ _ [.int v16_z] _ _ _ := hm_z
      replace hm_z := rn_iret (am_cur_of (i := (32, 1, .ireturn, (0, 0, 0), 0)) (by decide +kernel)) hm_z
      obtain ⟨e17_z, e18_z⟩ := hm_z
      rw [e18_z]
      refine ⟨z16_z, ?_⟩
      exact ⟨(show rg_v h14_z 164 17 = rg_v g 164 17 from e17_16), (show rg_v h14_z 164 18 = rg_v g 164 18 from e18_16), (show rg_v h14_z 164 19 = rg_v g 164 19 from e19_16), (show rg_v h14_z 164 20 = rg_v g 164 20 from e20_16)⟩
  · replace b1_z : ¬ (rg_v g 164 8) = (2 : Int32) ∧ ¬ (rg_v g 164 8).toInt = (2 : Int32).toInt := b1_z
    replace hm_z := rn_aload_n (am_cur_of (i := (8, 1, .aload_n 0, (0, 0, 0), 0)) (by decide +kernel)) g0_z hm_z
    replace hm_z := rn_iconst (w := 1) (am_cur_of (i := (9, 1, .iconst 1, (0, 0, 0), 0)) (by decide +kernel)) (by decide) hm_z
    replace hm_z := rn_callV (M' := am_m158) (o := 164) (ar := [.int 1]) (rest := []) (L := lv_args 0 [.ref 164, .int 1]) (am_cur_of (i := (10, 3, .invokevirtual 181, (158, 1665, 3), 0)) (by decide +kernel)) rfl rfl rfl rfl hm_z
    obtain ⟨r19_z, h20_z, q21_z, hm_z⟩ := hm_z
    obtain ⟨v22_z, rfl⟩ := rn_ret (M := am_m158) rfl (by decide) q21_z
    have K22 := kp_of (a := 158) (by decide) rfl (as := [.ref 164, .int 1]) (ra_Sc (fun _ e => by cases e; rfl) (ra_Sc (ra_Vi) ra_S0)) q21_z
    have z22_z := zM_t zM_r K22.1
    have e17_22 : rg_v h20_z 164 17 = rg_v g 164 17 := (K22.2 17 (by decide)).trans rfl
    have e18_22 : rg_v h20_z 164 18 = rg_v g 164 18 := (K22.2 18 (by decide)).trans rfl
    have e19_22 : rg_v h20_z 164 19 = rg_v g 164 19 := (K22.2 19 (by decide)).trans rfl
    have e20_22 : rg_v h20_z 164 20 = rg_v g 164 20 := (K22.2 20 (by decide)).trans rfl
    replace hm_z : rn _ _ _ _ [.int v22_z] _ _ _ := hm_z
    replace hm_z := rn_iret (am_cur_of (i := (13, 1, .ireturn, (0, 0, 0), 0)) (by decide +kernel)) hm_z
    obtain ⟨e23_z, e24_z⟩ := hm_z
    rw [e24_z]
    refine ⟨z22_z, ?_⟩
    exact ⟨(show rg_v h20_z 164 17 = rg_v g 164 17 from e17_22), (show rg_v h20_z 164 18 = rg_v g 164 18 from e18_22), (show rg_v h20_z 164 19 = rg_v g 164 19 from e19_22), (show rg_v h20_z 164 20 = rg_v g 164 20 from e20_22)⟩
theorem mz_newT {n : Nat} {g g' : am_H} {r : Option Value} {cq : Int32} (n0_z : 0 ≤ cq.toInt) (n9_z : cq.toInt ≤ 9) (hm_z : rn n am_m164 0 (lv_args 0 [.ref 164, .ref 175, .int 3, .int cq]) [] g r g') : zM g g' ∧ rg_v g' 164 17 = rg_v g 164 17 ∧ rg_v g' 164 18 = rg_v g 164 18 ∧ rg_v g' 164 19 = rg_v g 164 19 ∧ rg_v g' 164 20 = rg_v g 164 20 := by
  have z0_z : (0 : Int32).toInt = 0 := by decide
  have z2_z : (2 : Int32).toInt = 2 := by decide
  have g0_z : am_get (lv_args 0 [.ref 164, .ref 175, .int 3, .int cq]) 0 = some (.ref 164) := rfl
  have g1_z : am_get (lv_args 0 [.ref 164, .ref 175, .int 3, .int cq]) 1 = some (.ref 175) := rfl
  have g2_z : am_get (lv_args 0 [.ref 164, .ref 175, .int 3, .int cq]) 2 = some (.int 3) := rfl
  have g3_z : am_get (lv_args 0 [.ref 164, .ref 175, .int 3, .int cq]) 3 = some (.int cq) := rfl
  have zf : (3 : Int32).toInt = 3 := by decide
  have cn := rt_cl n0_z
  have hfn := ab_iadd (x := 3) (y := cq) (by omega) (by omega)
  have cfn := rt_cl (x := 3 + cq) (by omega)
  replace hm_z := rn_aload_n (am_cur_of (i := (0, 1, .aload_n 0, (0, 0, 0), 0)) (by decide +kernel)) g0_z hm_z
  replace hm_z := rn_getI (v := rg_v g 164 8) (am_cur_of (i := (1, 3, .getfield 157, (12, 8, 1392), 0)) (by decide +kernel)) (by decide +kernel) rfl hm_z
  replace hm_z := rn_iconst (w := 2) (am_cur_of (i := (4, 1, .iconst 2, (0, 0, 0), 0)) (by decide +kernel)) (by decide) hm_z
  replace hm_z := rn_cmp (am_cur_of (i := (5, 3, .if_icmp .eq 9, (8, 0, 0), 0)) (by decide +kernel)) hm_z
  rcases hm_z with ⟨b25_z, hm_z⟩ | ⟨b25_z, hm_z⟩
  · replace b25_z : (rg_v g 164 8) = (2 : Int32) ∧ (rg_v g 164 8).toInt = (2 : Int32).toInt := b25_z
    replace hm_z := rn_aload_n (am_cur_of (i := (14, 1, .aload_n 1, (0, 0, 0), 0)) (by decide +kernel)) g1_z hm_z
    replace hm_z := rn_iload_n (am_cur_of (i := (15, 1, .iload_n 2, (0, 0, 0), 0)) (by decide +kernel)) g2_z hm_z
    replace hm_z := rn_iload_n (am_cur_of (i := (16, 1, .iload_n 3, (0, 0, 0), 0)) (by decide +kernel)) g3_z hm_z
    replace hm_z := rn_aload_n (am_cur_of (i := (17, 1, .aload_n 0, (0, 0, 0), 0)) (by decide +kernel)) g0_z hm_z
    replace hm_z := rn_getI (v := rg_v g 164 9) (am_cur_of (i := (18, 3, .getfield 168, (12, 9, 1393), 0)) (by decide +kernel)) (by decide +kernel) rfl hm_z
    replace hm_z := rn_callS (M' := am_m165) (ar := [.int (rg_v g 164 9), .int cq, .int 3, .ref 175]) (rest := []) (L := lv_args 0 [.ref 175, .int 3, .int cq, .int (rg_v g 164 9)]) (am_cur_of (i := (21, 3, .invokestatic 241, (165, 1692, 3), 0)) (by decide +kernel)) rfl rfl rfl rfl hm_z
    obtain ⟨r26_z, h27_z, q28_z, hm_z⟩ := hm_z
    obtain ⟨yy, i2_z, rfl, -⟩ := rp_find (N := 6) (by decide +kernel) (by decide) (by omega) (by decide) q28_z
    replace yy := yy.symm
    subst yy
    replace hm_z : rn _ _ _ _ [.int i2_z] _ _ _ := hm_z
    replace hm_z := rn_if (am_cur_of (i := (24, 3, .ifCond .lt 9, (19, 0, 0), 0)) (by decide +kernel)) hm_z
    rcases hm_z with ⟨b29_z, hm_z⟩ | ⟨b29_z, hm_z⟩
    · replace b29_z : i2_z.toInt < (0 : Int32).toInt := b29_z
      replace hm_z := rn_aload_n (am_cur_of (i := (33, 1, .aload_n 1, (0, 0, 0), 0)) (by decide +kernel)) g1_z hm_z
      replace hm_z := rn_iload_n (am_cur_of (i := (34, 1, .iload_n 2, (0, 0, 0), 0)) (by decide +kernel)) g2_z hm_z
      replace hm_z := rn_iload_n (am_cur_of (i := (35, 1, .iload_n 3, (0, 0, 0), 0)) (by decide +kernel)) g3_z hm_z
      replace hm_z := rn_iadd (w := (3 : Int32) + cq) (am_cur_of (i := (36, 1, .iadd, (0, 0, 0), 0)) (by decide +kernel)) rfl hm_z
      replace hm_z := rn_aload_n (am_cur_of (i := (37, 1, .aload_n 0, (0, 0, 0), 0)) (by decide +kernel)) g0_z hm_z
      replace hm_z := rn_getI (v := rg_v g 164 9) (am_cur_of (i := (38, 3, .getfield 168, (12, 9, 1393), 0)) (by decide +kernel)) (by decide +kernel) rfl hm_z
      replace hm_z := rn_iastore (N := 6) (q := ((3 : Int32) + cq).toNatClampNeg) (am_cur_of (i := (41, 1, .iastore, (0, 0, 0), 0)) (by decide +kernel)) (by decide +kernel) rfl hm_z
      obtain ⟨p30_z, hm_z⟩ := hm_z
      replace hm_z := rn_aload_n (am_cur_of (i := (42, 1, .aload_n 0, (0, 0, 0), 0)) (by decide +kernel)) g0_z hm_z
      replace hm_z := rn_callV (M' := am_m151) (o := 164) (ar := []) (rest := []) (L := lv_args 0 [.ref 164]) (am_cur_of (i := (43, 3, .invokevirtual 191, (151, 1636, 3), 0)) (by decide +kernel)) rfl rfl rfl rfl hm_z
      obtain ⟨r31_z, h32_z, q33_z, hm_z⟩ := hm_z
      have vo := rn_void rfl q33_z
      subst vo
      have K34 := kp_of (a := 151) (by decide) rfl (as := [.ref 164]) (ra_Sc (fun _ e => by cases e; rfl) ra_S0) q33_z
      have z34_z := zM_t (zM_u (o := 175) (k := ((3 : Int32) + cq).toNatClampNeg) (show Nat.ble 3 (((3 : Int32) + cq).toNatClampNeg) = true from Nat.ble_eq_true_of_le (by omega)) zM_r) K34.1
      have e17_34 : rg_v h32_z 164 17 = rg_v g 164 17 := (K34.2 17 (by decide)).trans (show rg_v (am_up g 175 (((3 : Int32) + cq).toNatClampNeg) (.int (rg_v g 164 9))) 164 17 = rg_v g 164 17 from rfl)
      have e18_34 : rg_v h32_z 164 18 = rg_v g 164 18 := (K34.2 18 (by decide)).trans (show rg_v (am_up g 175 (((3 : Int32) + cq).toNatClampNeg) (.int (rg_v g 164 9))) 164 18 = rg_v g 164 18 from rfl)
      have e19_34 : rg_v h32_z 164 19 = rg_v g 164 19 := (K34.2 19 (by decide)).trans (show rg_v (am_up g 175 (((3 : Int32) + cq).toNatClampNeg) (.int (rg_v g 164 9))) 164 19 = rg_v g 164 19 from rfl)
      have e20_34 : rg_v h32_z 164 20 = rg_v g 164 20 := (K34.2 20 (by decide)).trans (show rg_v (am_up g 175 (((3 : Int32) + cq).toNatClampNeg) (.int (rg_v g 164 9))) 164 20 = rg_v g 164 20 from rfl)
      replace hm_z : rn _ _ _ _ [] _ _ _ := hm_z
      replace hm_z := rn_iconst (w := 1) (am_cur_of (i := (46, 1, .iconst 1, (0, 0, 0), 0)) (by decide +kernel)) (by decide) hm_z
      replace hm_z := rn_iret (am_cur_of (i := (47, 1, .ireturn, (0, 0, 0), 0)) (by decide +kernel)) hm_z
      obtain ⟨e35_z, e36_z⟩ := hm_z
      rw [e36_z]
      refine ⟨z34_z, ?_⟩
      exact ⟨(show rg_v h32_z 164 17 = rg_v g 164 17 from e17_34), (show rg_v h32_z 164 18 = rg_v g 164 18 from e18_34), (show rg_v h32_z 164 19 = rg_v g 164 19 from e19_34), (show rg_v h32_z 164 20 = rg_v g 164 20 from e20_34)⟩
    · replace b29_z : (0 : Int32).toInt ≤ i2_z.toInt := b29_z
      replace hm_z := rn_aload_n (am_cur_of (i := (27, 1, .aload_n 0, (0, 0, 0), 0)) (by decide +kernel)) g0_z hm_z
      replace hm_z := rn_iconst (w := 3) (am_cur_of (i := (28, 1, .iconst 3, (0, 0, 0), 0)) (by decide +kernel)) (by decide) hm_z
      replace hm_z := rn_callV (M' := am_m158) (o := 164) (ar := [.int 3]) (rest := []) (L := lv_args 0 [.ref 164, .int 3]) (am_cur_of (i := (29, 3, .invokevirtual 181, (158, 1665, 3), 0)) (by decide +kernel)) rfl rfl rfl rfl hm_z
      obtain ⟨r37_z, h38_z, q39_z, hm_z⟩ := hm_z
      obtain ⟨v40_z, rfl⟩ := rn_ret (M := am_m158) rfl (by decide) q39_z
      have K40 := kp_of (a := 158) (by decide) rfl (as := [.ref 164, .int 3]) (ra_Sc (fun _ e => by cases e; rfl) (ra_Sc (ra_Vi) ra_S0)) q39_z
      have z40_z := zM_t zM_r K40.1
      have e17_40 : rg_v h38_z 164 17 = rg_v g 164 17 := (K40.2 17 (by decide)).trans rfl
      have e18_40 : rg_v h38_z 164 18 = rg_v g 164 18 := (K40.2 18 (by decide)).trans rfl
      have e19_40 : rg_v h38_z 164 19 = rg_v g 164 19 := (K40.2 19 (by decide)).trans rfl
      have e20_40 : rg_v h38_z 164 20 = rg_v g 164 20 := (K40.2 20 (by decide)).trans rfl
      replace hm_z : rn _ _ _ _ [.int v40_z] _ _ _ := hm_z
      replace hm_z := rn_iret (am_cur_of (i := (32, 1, .ireturn, (0, 0, 0), 0)) (by decide +kernel)) hm_z
      obtain ⟨e41_z, e42_z⟩ := hm_z
      rw [e42_z]
      refine ⟨z40_z, ?_⟩
      exact ⟨(show rg_v h38_z 164 17 = rg_v g 164 17 from e17_40), (show rg_v h38_z 164 18 = rg_v g 164 18 from e18_40), (show rg_v h38_z 164 19 = rg_v g 164 19 from e19_40), (show rg_v h38_z 164 20 = rg_v g 164 20 from e20_40)⟩
  · replace b25_z : ¬ (rg_v g 164 8) = (2 : Int32) ∧ ¬ (rg_v g 164 8).toInt = (2 : Int32).toInt := b25_z
    replace hm_z := rn_aload_n (am_cur_of (i := (8, 1, .aload_n 0, (0, 0, 0), 0)) (by decide +kernel)) g0_z hm_z
    replace hm_z := rn_iconst (w := 1) (am_cur_of (i := (9, 1, .iconst 1, (0, 0, 0), 0)) (by decide +kernel)) (by decide) hm_z
    replace hm_z := rn_callV (M' := am_m158) (o := 164) (ar := [.int 1]) (rest := []) (L := lv_args 0 [.ref 164, .int 1]) (am_cur_of (i := (10, 3, .invokevirtual 181, (158, 1665, 3), 0)) (by decide +kernel)) rfl rfl rfl rfl hm_z
    obtain ⟨r43_z, h44_z, q45_z, hm_z⟩ := hm_z
    obtain ⟨v46_z, rfl⟩ := rn_ret (M := am_m158) rfl (by decide) q45_z
    have K46 := kp_of (a := 158) (by decide) rfl (as := [.ref 164, .int 1]) (ra_Sc (fun _ e => by cases e; rfl) (ra_Sc (ra_Vi) ra_S0)) q45_z
    have z46_z := zM_t zM_r K46.1
    have e17_46 : rg_v h44_z 164 17 = rg_v g 164 17 := (K46.2 17 (by decide)).trans rfl
    have e18_46 : rg_v h44_z 164 18 = rg_v g 164 18 := (K46.2 18 (by decide)).trans rfl
    have e19_46 : rg_v h44_z 164 19 = rg_v g 164 19 := (K46.2 19 (by decide)).trans rfl
    have e20_46 : rg_v h44_z 164 20 = rg_v g 164 20 := (K46.2 20 (by decide)).trans rfl
    replace hm_z : rn _ _ _ _ [.int v46_z] _ _ _ := hm_z
    replace hm_z := rn_iret (am_cur_of (i := (13, 1, .ireturn, (0, 0, 0), 0)) (by decide +kernel)) hm_z
    obtain ⟨e47_z, e48_z⟩ := hm_z
    rw [e48_z]
    refine ⟨z46_z, ?_⟩
    exact ⟨(show rg_v h44_z 164 17 = rg_v g 164 17 from e17_46), (show rg_v h44_z 164 18 = rg_v g 164 18 from e18_46), (show rg_v h44_z 164 19 = rg_v g 164 19 from e19_46), (show rg_v h44_z 164 20 = rg_v g 164 20 from e20_46)⟩
theorem mz_bed {n : Nat} {g g' : am_H} {r : Option Value} (C : cr g) (hm_z : rn n am_m159 0 (lv_args 0 [.ref 164]) [] g r g') : zM g g' ∧ cr g' := by
  have z0_z : (0 : Int32).toInt = 0 := by decide
  have z3_z : (3 : Int32).toInt = 3 := by decide
  have z4_z : (4 : Int32).toInt = 4 := by decide
  have z6_z : (6 : Int32).toInt = 6 := by decide
  have z8_z : (8 : Int32).toInt = 8 := by decide
  have g0_z : am_get (lv_args 0 [.ref 164]) 0 = some (.ref 164) := rfl
  obtain ⟨⟨b0_z, b4_z⟩, ⟨t0_z, t8_z⟩, ⟨l0_z, l6_z⟩, ⟨q0_z, q3_z⟩⟩ := C
  obtain ⟨cb, ecb⟩ : ∃ v, rg_v g 164 17 = v := ⟨_, rfl⟩
  rw [ecb] at b0_z b4_z
  obtain ⟨ct, ect⟩ : ∃ v, rg_v g 164 18 = v := ⟨_, rfl⟩
  rw [ect] at t0_z t8_z
  obtain ⟨cl, ecl⟩ : ∃ v, rg_v g 164 19 = v := ⟨_, rfl⟩
  rw [ecl] at l0_z l6_z
  obtain ⟨cq, ecq⟩ : ∃ v, rg_v g 164 20 = v := ⟨_, rfl⟩
  rw [ecq] at q0_z q3_z
  have z9_z : (9 : Int32).toInt = 9 := by decide
  replace hm_z := rn_aload_n (am_cur_of (i := (0, 1, .aload_n 0, (0, 0, 0), 0)) (by decide +kernel)) g0_z hm_z
  replace hm_z := rn_iconst (w := 0) (am_cur_of (i := (1, 1, .iconst 0, (0, 0, 0), 0)) (by decide +kernel)) (by decide) hm_z
  replace hm_z := rn_callV (M' := am_m160) (o := 164) (ar := [.int 0]) (rest := []) (L := lv_args 0 [.ref 164, .int 0]) (am_cur_of (i := (2, 3, .invokevirtual 245, (160, 1673, 3), 0)) (by decide +kernel)) rfl rfl rfl rfl hm_z
  obtain ⟨r49_z, h50_z, q51_z, hm_z⟩ := hm_z
  obtain ⟨v52_z, rfl⟩ := rn_ret (M := am_m160) rfl (by decide) q51_z
  have K52 := kp_of (a := 160) (by decide) rfl (as := [.ref 164, .int 0]) (ra_Sc (fun _ e => by cases e; rfl) (ra_Sc (ra_Vi) ra_S0)) q51_z
  have z52_z := zM_t zM_r K52.1
  have e17_52 : rg_v h50_z 164 17 = cb := (K52.2 17 (by decide)).trans ecb
  have e18_52 : rg_v h50_z 164 18 = ct := (K52.2 18 (by decide)).trans ect
  have e19_52 : rg_v h50_z 164 19 = cl := (K52.2 19 (by decide)).trans ecl
  have e20_52 : rg_v h50_z 164 20 = cq := (K52.2 20 (by decide)).trans ecq
  replace hm_z : rn _ _ _ _ [.int v52_z] _ _ _ := hm_z
  replace hm_z := rn_if (am_cur_of (i := (5, 3, .ifCond .eq 14, (9, 0, 0), 0)) (by decide +kernel)) hm_z
  rcases hm_z with ⟨b53_z, hm_z⟩ | ⟨b53_z, hm_z⟩
  · replace b53_z : v52_z = (0 : Int32) ∧ v52_z.toInt = (0 : Int32).toInt := b53_z
    replace hm_z := rn_iconst (w := 0) (am_cur_of (i := (19, 1, .iconst 0, (0, 0, 0), 0)) (by decide +kernel)) (by decide) hm_z
    replace hm_z := rn_iret (am_cur_of (i := (20, 1, .ireturn, (0, 0, 0), 0)) (by decide +kernel)) hm_z
    obtain ⟨e54_z, e55_z⟩ := hm_z
    rw [e55_z]
    exact ⟨z52_z, ⟨by rw [show rg_v h50_z 164 17 = cb from e17_52]; omega, by rw [show rg_v h50_z 164 17 = cb from e17_52]; omega⟩, ⟨by rw [show rg_v h50_z 164 18 = ct from e18_52]; omega, by rw [show rg_v h50_z 164 18 = ct from e18_52]; omega⟩, ⟨by rw [show rg_v h50_z 164 19 = cl from e19_52]; omega, by rw [show rg_v h50_z 164 19 = cl from e19_52]; omega⟩, ⟨by rw [show rg_v h50_z 164 20 = cq from e20_52]; omega, by rw [show rg_v h50_z 164 20 = cq from e20_52]; omega⟩⟩
  · replace b53_z : ¬ v52_z = (0 : Int32) ∧ ¬ v52_z.toInt = (0 : Int32).toInt := b53_z
    replace hm_z := rn_aload_n (am_cur_of (i := (8, 1, .aload_n 0, (0, 0, 0), 0)) (by decide +kernel)) g0_z hm_z
    replace hm_z := rn_iconst (w := 1) (am_cur_of (i := (9, 1, .iconst 1, (0, 0, 0), 0)) (by decide +kernel)) (by decide) hm_z
    replace hm_z := rn_sipush (w := 9999) (am_cur_of (i := (10, 3, .sipush 9999, (0, 0, 0), 0)) (by decide +kernel)) (by decide) hm_z
    replace hm_z := rn_callV (M' := am_m161) (o := 164) (ar := [.int 9999, .int 1]) (rest := []) (L := lv_args 0 [.ref 164, .int 1, .int 9999]) (am_cur_of (i := (13, 3, .invokevirtual 197, (161, 1677, 3), 0)) (by decide +kernel)) rfl rfl rfl rfl hm_z
    obtain ⟨r56_z, h57_z, q58_z, hm_z⟩ := hm_z
    obtain ⟨v59_z, rfl⟩ := rn_ret (M := am_m161) rfl (by decide) q58_z
    have K59 := kp_of (a := 161) (by decide) rfl (as := [.ref 164, .int 1, .int 9999]) (ra_Sc (fun _ e => by cases e; rfl) (ra_Sc (ra_Vi) (ra_Sc (ra_Vi) ra_S0))) q58_z
    have z59_z := zM_t z52_z K59.1
    have e17_59 : rg_v h57_z 164 17 = cb := (K59.2 17 (by decide)).trans e17_52
    have e18_59 : rg_v h57_z 164 18 = ct := (K59.2 18 (by decide)).trans e18_52
    have e19_59 : rg_v h57_z 164 19 = cl := (K59.2 19 (by decide)).trans e19_52
    have e20_59 : rg_v h57_z 164 20 = cq := (K59.2 20 (by decide)).trans e20_52
    replace hm_z : rn _ _ _ _ [.int v59_z] _ _ _ := hm_z
    replace hm_z := rn_if (am_cur_of (i := (16, 3, .ifCond .ne 5, (11, 0, 0), 0)) (by decide +kernel)) hm_z
    rcases hm_z with ⟨b60_z, hm_z⟩ | ⟨b60_z, hm_z⟩
    · replace b60_z : ¬ v59_z = (0 : Int32) ∧ ¬ v59_z.toInt = (0 : Int32).toInt := b60_z
      replace hm_z := rn_aload_n (am_cur_of (i := (21, 1, .aload_n 0, (0, 0, 0), 0)) (by decide +kernel)) g0_z hm_z
      replace hm_z := rn_getR (x := 168) (am_cur_of (i := (22, 3, .getfield 24, (12, 23, 1407), 0)) (by decide +kernel)) (by decide +kernel) hm_z
      replace hm_z := rn_bipush (w := 6) (am_cur_of (i := (25, 2, .bipush 6, (0, 0, 0), 0)) (by decide +kernel)) (by decide) hm_z
      replace hm_z := rn_aload_n (am_cur_of (i := (27, 1, .aload_n 0, (0, 0, 0), 0)) (by decide +kernel)) g0_z hm_z
      replace hm_z := rn_getI (v := rg_v h57_z 164 11) (am_cur_of (i := (28, 3, .getfield 188, (12, 11, 1395), 0)) (by decide +kernel)) (by decide +kernel) rfl hm_z
      replace hm_z := rn_iastore (N := 12) (q := 6) (am_cur_of (i := (31, 1, .iastore, (0, 0, 0), 0)) (by decide +kernel)) (by decide +kernel) rfl hm_z
      obtain ⟨p61_z, hm_z⟩ := hm_z
      replace hm_z := rn_aload_n (am_cur_of (i := (32, 1, .aload_n 0, (0, 0, 0), 0)) (by decide +kernel)) g0_z hm_z
      replace hm_z := rn_getI (v := rg_v h57_z 164 8) (am_cur_of (i := (33, 3, .getfield 157, (12, 8, 1392), 0)) (by decide +kernel)) (by decide +kernel) (show rg_v (am_up h57_z 168 6 (.int (rg_v h57_z 164 11))) 164 8 = rg_v h57_z 164 8 from rfl) hm_z
      replace hm_z := rn_iconst (w := 3) (am_cur_of (i := (36, 1, .iconst 3, (0, 0, 0), 0)) (by decide +kernel)) (by decide) hm_z
      replace hm_z := rn_cmp (am_cur_of (i := (37, 3, .if_icmp .eq 5, (23, 0, 0), 0)) (by decide +kernel)) hm_z
      rcases hm_z with ⟨b62_z, hm_z⟩ | ⟨b62_z, hm_z⟩
      · replace b62_z : (rg_v h57_z 164 8) = (3 : Int32) ∧ (rg_v h57_z 164 8).toInt = (3 : Int32).toInt := b62_z
        replace hm_z := rn_aload_n (am_cur_of (i := (42, 1, .aload_n 0, (0, 0, 0), 0)) (by decide +kernel)) g0_z hm_z
        replace hm_z := rn_iconst (w := 0) (am_cur_of (i := (43, 1, .iconst 0, (0, 0, 0), 0)) (by decide +kernel)) (by decide) hm_z
        replace hm_z := rn_aload_n (am_cur_of (i := (44, 1, .aload_n 0, (0, 0, 0), 0)) (by decide +kernel)) g0_z hm_z
        replace hm_z := rn_getR (x := 168) (am_cur_of (i := (45, 3, .getfield 24, (12, 23, 1407), 0)) (by decide +kernel)) (by decide +kernel) hm_z
        replace hm_z := rn_bipush (w := 6) (am_cur_of (i := (48, 2, .bipush 6, (0, 0, 0), 0)) (by decide +kernel)) (by decide) hm_z
        replace hm_z := rn_iaload (N := 12) (q := 6) (v := rg_v h57_z 164 11) (am_cur_of (i := (50, 1, .iaload, (0, 0, 0), 0)) (by decide +kernel)) (by decide +kernel) rfl (show rg_v (am_up h57_z 168 6 (.int (rg_v h57_z 164 11))) 168 6 = rg_v h57_z 164 11 from rfl) hm_z
        obtain ⟨p63_z, hm_z⟩ := hm_z
        replace hm_z := rn_callV (M' := am_m161) (o := 164) (ar := [.int (rg_v h57_z 164 11), .int 0]) (rest := []) (L := lv_args 0 [.ref 164, .int 0, .int (rg_v h57_z 164 11)]) (am_cur_of (i := (51, 3, .invokevirtual 197, (161, 1677, 3), 0)) (by decide +kernel)) rfl rfl rfl rfl hm_z
        obtain ⟨r64_z, h65_z, q66_z, hm_z⟩ := hm_z
        obtain ⟨v67_z, rfl⟩ := rn_ret (M := am_m161) rfl (by decide) q66_z
        have K67 := kp_of (a := 161) (by decide) rfl (as := [.ref 164, .int 0, .int (rg_v h57_z 164 11)]) (ra_Sc (fun _ e => by cases e; rfl) (ra_Sc (ra_Vi) (ra_Sc (ra_Vi) ra_S0))) q66_z
        have z67_z := zM_t (zM_u (o := 168) (k := 6) (by decide) z59_z) K67.1
        have e17_67 : rg_v h65_z 164 17 = cb := (K67.2 17 (by decide)).trans (show rg_v (am_up h57_z 168 6 (.int (rg_v h57_z 164 11))) 164 17 = cb from e17_59)
        have e18_67 : rg_v h65_z 164 18 = ct := (K67.2 18 (by decide)).trans (show rg_v (am_up h57_z 168 6 (.int (rg_v h57_z 164 11))) 164 18 = ct from e18_59)
        have e19_67 : rg_v h65_z 164 19 = cl := (K67.2 19 (by decide)).trans (show rg_v (am_up h57_z 168 6 (.int (rg_v h57_z 164 11))) 164 19 = cl from e19_59)
        have e20_67 : rg_v h65_z 164 20 = cq := (K67.2 20 (by decide)).trans (show rg_v (am_up h57_z 168 6 (.int (rg_v h57_z 164 11))) 164 20 = cq from e20_59)
        replace hm_z : rn _ _ _ _ [.int v67_z] _ _ _ := hm_z
        replace hm_z := rn_if (am_cur_of (i := (54, 3, .ifCond .ne 5, (33, 0, 0), 0)) (by decide +kernel)) hm_z
        rcases hm_z with ⟨b68_z, hm_z⟩ | ⟨b68_z, hm_z⟩
        · replace b68_z : ¬ v67_z = (0 : Int32) ∧ ¬ v67_z.toInt = (0 : Int32).toInt := b68_z
          replace hm_z := rn_aload_n (am_cur_of (i := (59, 1, .aload_n 0, (0, 0, 0), 0)) (by decide +kernel)) g0_z hm_z
          replace hm_z := rn_getR (x := 168) (am_cur_of (i := (60, 3, .getfield 24, (12, 23, 1407), 0)) (by decide +kernel)) (by decide +kernel) hm_z
          replace hm_z := rn_bipush (w := 7) (am_cur_of (i := (63, 2, .bipush 7, (0, 0, 0), 0)) (by decide +kernel)) (by decide) hm_z
          replace hm_z := rn_aload_n (am_cur_of (i := (65, 1, .aload_n 0, (0, 0, 0), 0)) (by decide +kernel)) g0_z hm_z
          replace hm_z := rn_getI (v := rg_v h65_z 164 11) (am_cur_of (i := (66, 3, .getfield 188, (12, 11, 1395), 0)) (by decide +kernel)) (by decide +kernel) rfl hm_z
          replace hm_z := rn_iastore (N := 12) (q := 7) (am_cur_of (i := (69, 1, .iastore, (0, 0, 0), 0)) (by decide +kernel)) (by decide +kernel) rfl hm_z
          obtain ⟨p69_z, hm_z⟩ := hm_z
          replace hm_z := rn_iconst (w := 1) (am_cur_of (i := (70, 1, .iconst 1, (0, 0, 0), 0)) (by decide +kernel)) (by decide) hm_z
          replace hm_z := rn_iret (am_cur_of (i := (71, 1, .ireturn, (0, 0, 0), 0)) (by decide +kernel)) hm_z
          obtain ⟨e70_z, e71_z⟩ := hm_z
          rw [e71_z]
          exact ⟨(zM_u (o := 168) (k := 7) (by decide) z67_z), ⟨by rw [show rg_v (am_up h65_z 168 7 (.int (rg_v h65_z 164 11))) 164 17 = cb from (show rg_v (am_up h65_z 168 7 (.int (rg_v h65_z 164 11))) 164 17 = cb from e17_67)]; omega, by rw [show rg_v (am_up h65_z 168 7 (.int (rg_v h65_z 164 11))) 164 17 = cb from (show rg_v (am_up h65_z 168 7 (.int (rg_v h65_z 164 11))) 164 17 = cb from e17_67)]; omega⟩, ⟨by rw [show rg_v (am_up h65_z 168 7 (.int (rg_v h65_z 164 11))) 164 18 = ct from (show rg_v (am_up h65_z 168 7 (.int (rg_v h65_z 164 11))) 164 18 = ct from e18_67)]; omega, by rw [show rg_v (am_up h65_z 168 7 (.int (rg_v h65_z 164 11))) 164 18 = ct from (show rg_v (am_up h65_z 168 7 (.int (rg_v h65_z 164 11))) 164 18 = ct from e18_67)]; omega⟩, ⟨by rw [show rg_v (am_up h65_z 168 7 (.int (rg_v h65_z 164 11))) 164 19 = cl from (show rg_v (am_up h65_z 168 7 (.int (rg_v h65_z 164 11))) 164 19 = cl from e19_67)]; omega, by rw [show rg_v (am_up h65_z 168 7 (.int (rg_v h65_z 164 11))) 164 19 = cl from (show rg_v (am_up h65_z 168 7 (.int (rg_v h65_z 164 11))) 164 19 = cl from e19_67)]; omega⟩, ⟨by rw [show rg_v (am_up h65_z 168 7 (.int (rg_v h65_z 164 11))) 164 20 = cq from (show rg_v (am_up h65_z 168 7 (.int (rg_v h65_z 164 11))) 164 20 = cq from e20_67)]; omega, by rw [show rg_v (am_up h65_z 168 7 (.int (rg_v h65_z 164 11))) 164 20 = cq from (show rg_v (am_up h65_z 168 7 (.int (rg_v h65_z 164 11))) 164 20 = cq from e20_67)]; omega⟩⟩
        · replace b68_z : v67_z = (0 : Int32) ∧ v67_z.toInt = (0 : Int32).toInt := b68_z
          replace hm_z := rn_iconst (w := 0) (am_cur_of (i := (57, 1, .iconst 0, (0, 0, 0), 0)) (by decide +kernel)) (by decide) hm_z
          replace hm_z := rn_iret (am_cur_of (i := (58, 1, .ireturn, (0, 0, 0), 0)) (by decide +kernel)) hm_z
          obtain ⟨e72_z, e73_z⟩ := hm_z
          rw [e73_z]
          exact ⟨z67_z, ⟨by rw [show rg_v h65_z 164 17 = cb from e17_67]; omega, by rw [show rg_v h65_z 164 17 = cb from e17_67]; omega⟩, ⟨by rw [show rg_v h65_z 164 18 = ct from e18_67]; omega, by rw [show rg_v h65_z 164 18 = ct from e18_67]; omega⟩, ⟨by rw [show rg_v h65_z 164 19 = cl from e19_67]; omega, by rw [show rg_v h65_z 164 19 = cl from e19_67]; omega⟩, ⟨by rw [show rg_v h65_z 164 20 = cq from e20_67]; omega, by rw [show rg_v h65_z 164 20 = cq from e20_67]; omega⟩⟩
      · replace b62_z : ¬ (rg_v h57_z 164 8) = (3 : Int32) ∧ ¬ (rg_v h57_z 164 8).toInt = (3 : Int32).toInt := b62_z
        replace hm_z := rn_iconst (w := 1) (am_cur_of (i := (40, 1, .iconst 1, (0, 0, 0), 0)) (by decide +kernel)) (by decide) hm_z
        replace hm_z := rn_iret (am_cur_of (i := (41, 1, .ireturn, (0, 0, 0), 0)) (by decide +kernel)) hm_z
        obtain ⟨e74_z, e75_z⟩ := hm_z
        rw [e75_z]
        exact ⟨(zM_u (o := 168) (k := 6) (by decide) z59_z), ⟨by rw [show rg_v (am_up h57_z 168 6 (.int (rg_v h57_z 164 11))) 164 17 = cb from (show rg_v (am_up h57_z 168 6 (.int (rg_v h57_z 164 11))) 164 17 = cb from e17_59)]; omega, by rw [show rg_v (am_up h57_z 168 6 (.int (rg_v h57_z 164 11))) 164 17 = cb from (show rg_v (am_up h57_z 168 6 (.int (rg_v h57_z 164 11))) 164 17 = cb from e17_59)]; omega⟩, ⟨by rw [show rg_v (am_up h57_z 168 6 (.int (rg_v h57_z 164 11))) 164 18 = ct from (show rg_v (am_up h57_z 168 6 (.int (rg_v h57_z 164 11))) 164 18 = ct from e18_59)]; omega, by rw [show rg_v (am_up h57_z 168 6 (.int (rg_v h57_z 164 11))) 164 18 = ct from (show rg_v (am_up h57_z 168 6 (.int (rg_v h57_z 164 11))) 164 18 = ct from e18_59)]; omega⟩, ⟨by rw [show rg_v (am_up h57_z 168 6 (.int (rg_v h57_z 164 11))) 164 19 = cl from (show rg_v (am_up h57_z 168 6 (.int (rg_v h57_z 164 11))) 164 19 = cl from e19_59)]; omega, by rw [show rg_v (am_up h57_z 168 6 (.int (rg_v h57_z 164 11))) 164 19 = cl from (show rg_v (am_up h57_z 168 6 (.int (rg_v h57_z 164 11))) 164 19 = cl from e19_59)]; omega⟩, ⟨by rw [show rg_v (am_up h57_z 168 6 (.int (rg_v h57_z 164 11))) 164 20 = cq from (show rg_v (am_up h57_z 168 6 (.int (rg_v h57_z 164 11))) 164 20 = cq from e20_59)]; omega, by rw [show rg_v (am_up h57_z 168 6 (.int (rg_v h57_z 164 11))) 164 20 = cq from (show rg_v (am_up h57_z 168 6 (.int (rg_v h57_z 164 11))) 164 20 = cq from e20_59)]; omega⟩⟩
    · replace b60_z : v59_z = (0 : Int32) ∧ v59_z.toInt = (0 : Int32).toInt := b60_z
      replace hm_z := rn_iconst (w := 0) (am_cur_of (i := (19, 1, .iconst 0, (0, 0, 0), 0)) (by decide +kernel)) (by decide) hm_z
      replace hm_z := rn_iret (am_cur_of (i := (20, 1, .ireturn, (0, 0, 0), 0)) (by decide +kernel)) hm_z
      obtain ⟨e76_z, e77_z⟩ := hm_z
      rw [e77_z]
      exact ⟨z59_z, ⟨by rw [show rg_v h57_z 164 17 = cb from e17_59]; omega, by rw [show rg_v h57_z 164 17 = cb from e17_59]; omega⟩, ⟨by rw [show rg_v h57_z 164 18 = ct from e18_59]; omega, by rw [show rg_v h57_z 164 18 = ct from e18_59]; omega⟩, ⟨by rw [show rg_v h57_z 164 19 = cl from e19_59]; omega, by rw [show rg_v h57_z 164 19 = cl from e19_59]; omega⟩, ⟨by rw [show rg_v h57_z 164 20 = cq from e20_59]; omega, by rw [show rg_v h57_z 164 20 = cq from e20_59]; omega⟩⟩
theorem mz_pump {n : Nat} {g g' : am_H} {r : Option Value} (C : cr g) (hm_z : rn n am_m167 0 (lv_args 0 [.ref 164]) [] g r g') : zM g g' ∧ cr g' := by
  have z0_z : (0 : Int32).toInt = 0 := by decide
  have z3_z : (3 : Int32).toInt = 3 := by decide
  have z4_z : (4 : Int32).toInt = 4 := by decide
  have z6_z : (6 : Int32).toInt = 6 := by decide
  have z8_z : (8 : Int32).toInt = 8 := by decide
  have g0_z : am_get (lv_args 0 [.ref 164]) 0 = some (.ref 164) := rfl
  obtain ⟨⟨b0_z, b4_z⟩, ⟨t0_z, t8_z⟩, ⟨l0_z, l6_z⟩, ⟨q0_z, q3_z⟩⟩ := C
  obtain ⟨cb, ecb⟩ : ∃ v, rg_v g 164 17 = v := ⟨_, rfl⟩
  rw [ecb] at b0_z b4_z
  obtain ⟨ct, ect⟩ : ∃ v, rg_v g 164 18 = v := ⟨_, rfl⟩
  rw [ect] at t0_z t8_z
  obtain ⟨cl, ecl⟩ : ∃ v, rg_v g 164 19 = v := ⟨_, rfl⟩
  rw [ecl] at l0_z l6_z
  obtain ⟨cq, ecq⟩ : ∃ v, rg_v g 164 20 = v := ⟨_, rfl⟩
  rw [ecq] at q0_z q3_z
  have z9_z : (9 : Int32).toInt = 9 := by decide
  replace hm_z := rn_aload_n (am_cur_of (i := (0, 1, .aload_n 0, (0, 0, 0), 0)) (by decide +kernel)) g0_z hm_z
  replace hm_z := rn_iconst (w := 1) (am_cur_of (i := (1, 1, .iconst 1, (0, 0, 0), 0)) (by decide +kernel)) (by decide) hm_z
  replace hm_z := rn_callV (M' := am_m160) (o := 164) (ar := [.int 1]) (rest := []) (L := lv_args 0 [.ref 164, .int 1]) (am_cur_of (i := (2, 3, .invokevirtual 245, (160, 1673, 3), 0)) (by decide +kernel)) rfl rfl rfl rfl hm_z
  obtain ⟨r78_z, h79_z, q80_z, hm_z⟩ := hm_z
  obtain ⟨v81_z, rfl⟩ := rn_ret (M := am_m160) rfl (by decide) q80_z
  have K81 := kp_of (a := 160) (by decide) rfl (as := [.ref 164, .int 1]) (ra_Sc (fun _ e => by cases e; rfl) (ra_Sc (ra_Vi) ra_S0)) q80_z
  have z81_z := zM_t zM_r K81.1
  have e17_81 : rg_v h79_z 164 17 = cb := (K81.2 17 (by decide)).trans ecb
  have e18_81 : rg_v h79_z 164 18 = ct := (K81.2 18 (by decide)).trans ect
  have e19_81 : rg_v h79_z 164 19 = cl := (K81.2 19 (by decide)).trans ecl
  have e20_81 : rg_v h79_z 164 20 = cq := (K81.2 20 (by decide)).trans ecq
  replace hm_z : rn _ _ _ _ [.int v81_z] _ _ _ := hm_z
  replace hm_z := rn_if (am_cur_of (i := (5, 3, .ifCond .eq 13, (9, 0, 0), 0)) (by decide +kernel)) hm_z
  rcases hm_z with ⟨b82_z, hm_z⟩ | ⟨b82_z, hm_z⟩
  · replace b82_z : v81_z = (0 : Int32) ∧ v81_z.toInt = (0 : Int32).toInt := b82_z
    replace hm_z := rn_iconst (w := 0) (am_cur_of (i := (18, 1, .iconst 0, (0, 0, 0), 0)) (by decide +kernel)) (by decide) hm_z
    replace hm_z := rn_iret (am_cur_of (i := (19, 1, .ireturn, (0, 0, 0), 0)) (by decide +kernel)) hm_z
    obtain ⟨e83_z, e84_z⟩ := hm_z
    rw [e84_z]
    exact ⟨z81_z, ⟨by rw [show rg_v h79_z 164 17 = cb from e17_81]; omega, by rw [show rg_v h79_z 164 17 = cb from e17_81]; omega⟩, ⟨by rw [show rg_v h79_z 164 18 = ct from e18_81]; omega, by rw [show rg_v h79_z 164 18 = ct from e18_81]; omega⟩, ⟨by rw [show rg_v h79_z 164 19 = cl from e19_81]; omega, by rw [show rg_v h79_z 164 19 = cl from e19_81]; omega⟩, ⟨by rw [show rg_v h79_z 164 20 = cq from e20_81]; omega, by rw [show rg_v h79_z 164 20 = cq from e20_81]; omega⟩⟩
  · replace b82_z : ¬ v81_z = (0 : Int32) ∧ ¬ v81_z.toInt = (0 : Int32).toInt := b82_z
    replace hm_z := rn_aload_n (am_cur_of (i := (8, 1, .aload_n 0, (0, 0, 0), 0)) (by decide +kernel)) g0_z hm_z
    replace hm_z := rn_iconst (w := 1) (am_cur_of (i := (9, 1, .iconst 1, (0, 0, 0), 0)) (by decide +kernel)) (by decide) hm_z
    replace hm_z := rn_bipush (w := 99) (am_cur_of (i := (10, 2, .bipush 99, (0, 0, 0), 0)) (by decide +kernel)) (by decide) hm_z
    replace hm_z := rn_callV (M' := am_m161) (o := 164) (ar := [.int 99, .int 1]) (rest := []) (L := lv_args 0 [.ref 164, .int 1, .int 99]) (am_cur_of (i := (12, 3, .invokevirtual 197, (161, 1677, 3), 0)) (by decide +kernel)) rfl rfl rfl rfl hm_z
    obtain ⟨r85_z, h86_z, q87_z, hm_z⟩ := hm_z
    obtain ⟨v88_z, rfl⟩ := rn_ret (M := am_m161) rfl (by decide) q87_z
    have K88 := kp_of (a := 161) (by decide) rfl (as := [.ref 164, .int 1, .int 99]) (ra_Sc (fun _ e => by cases e; rfl) (ra_Sc (ra_Vi) (ra_Sc (ra_Vi) ra_S0))) q87_z
    have z88_z := zM_t z81_z K88.1
    have e17_88 : rg_v h86_z 164 17 = cb := (K88.2 17 (by decide)).trans e17_81
    have e18_88 : rg_v h86_z 164 18 = ct := (K88.2 18 (by decide)).trans e18_81
    have e19_88 : rg_v h86_z 164 19 = cl := (K88.2 19 (by decide)).trans e19_81
    have e20_88 : rg_v h86_z 164 20 = cq := (K88.2 20 (by decide)).trans e20_81
    replace hm_z : rn _ _ _ _ [.int v88_z] _ _ _ := hm_z
    replace hm_z := rn_if (am_cur_of (i := (15, 3, .ifCond .ne 5, (11, 0, 0), 0)) (by decide +kernel)) hm_z
    rcases hm_z with ⟨b89_z, hm_z⟩ | ⟨b89_z, hm_z⟩
    · replace b89_z : ¬ v88_z = (0 : Int32) ∧ ¬ v88_z.toInt = (0 : Int32).toInt := b89_z
      replace hm_z := rn_aload_n (am_cur_of (i := (20, 1, .aload_n 0, (0, 0, 0), 0)) (by decide +kernel)) g0_z hm_z
      replace hm_z := rn_getR (x := 168) (am_cur_of (i := (21, 3, .getfield 24, (12, 23, 1407), 0)) (by decide +kernel)) (by decide +kernel) hm_z
      replace hm_z := rn_bipush (w := 8) (am_cur_of (i := (24, 2, .bipush 8, (0, 0, 0), 0)) (by decide +kernel)) (by decide) hm_z
      replace hm_z := rn_aload_n (am_cur_of (i := (26, 1, .aload_n 0, (0, 0, 0), 0)) (by decide +kernel)) g0_z hm_z
      replace hm_z := rn_getI (v := rg_v h86_z 164 11) (am_cur_of (i := (27, 3, .getfield 188, (12, 11, 1395), 0)) (by decide +kernel)) (by decide +kernel) rfl hm_z
      replace hm_z := rn_iastore (N := 12) (q := 8) (am_cur_of (i := (30, 1, .iastore, (0, 0, 0), 0)) (by decide +kernel)) (by decide +kernel) rfl hm_z
      obtain ⟨p90_z, hm_z⟩ := hm_z
      replace hm_z := rn_aload_n (am_cur_of (i := (31, 1, .aload_n 0, (0, 0, 0), 0)) (by decide +kernel)) g0_z hm_z
      replace hm_z := rn_iconst (w := 1) (am_cur_of (i := (32, 1, .iconst 1, (0, 0, 0), 0)) (by decide +kernel)) (by decide) hm_z
      replace hm_z := rn_bipush (w := 99) (am_cur_of (i := (33, 2, .bipush 99, (0, 0, 0), 0)) (by decide +kernel)) (by decide) hm_z
      replace hm_z := rn_callV (M' := am_m161) (o := 164) (ar := [.int 99, .int 1]) (rest := []) (L := lv_args 0 [.ref 164, .int 1, .int 99]) (am_cur_of (i := (35, 3, .invokevirtual 197, (161, 1677, 3), 0)) (by decide +kernel)) rfl rfl rfl rfl hm_z
      obtain ⟨r91_z, h92_z, q93_z, hm_z⟩ := hm_z
      obtain ⟨v94_z, rfl⟩ := rn_ret (M := am_m161) rfl (by decide) q93_z
      have K94 := kp_of (a := 161) (by decide) rfl (as := [.ref 164, .int 1, .int 99]) (ra_Sc (fun _ e => by cases e; rfl) (ra_Sc (ra_Vi) (ra_Sc (ra_Vi) ra_S0))) q93_z
      have z94_z := zM_t (zM_u (o := 168) (k := 8) (by decide) z88_z) K94.1
      have e17_94 : rg_v h92_z 164 17 = cb := (K94.2 17 (by decide)).trans (show rg_v (am_up h86_z 168 8 (.int (rg_v h86_z 164 11))) 164 17 = cb from e17_88)
      have e18_94 : rg_v h92_z 164 18 = ct := (K94.2 18 (by decide)).trans (show rg_v (am_up h86_z 168 8 (.int (rg_v h86_z 164 11))) 164 18 = ct from e18_88)
      have e19_94 : rg_v h92_z 164 19 = cl := (K94.2 19 (by decide)).trans (show rg_v (am_up h86_z 168 8 (.int (rg_v h86_z 164 11))) 164 19 = cl from e19_88)
      have e20_94 : rg_v h92_z 164 20 = cq := (K94.2 20 (by decide)).trans (show rg_v (am_up h86_z 168 8 (.int (rg_v h86_z 164 11))) 164 20 = cq from e20_88)
      replace hm_z : rn _ _ _ _ [.int v94_z] _ _ _ := hm_z
      replace hm_z := rn_if (am_cur_of (i := (38, 3, .ifCond .ne 5, (24, 0, 0), 0)) (by decide +kernel)) hm_z
      rcases hm_z with ⟨b95_z, hm_z⟩ | ⟨b95_z, hm_z⟩
      · replace b95_z : ¬ v94_z = (0 : Int32) ∧ ¬ v94_z.toInt = (0 : Int32).toInt := b95_z
        replace hm_z := rn_aload_n (am_cur_of (i := (43, 1, .aload_n 0, (0, 0, 0), 0)) (by decide +kernel)) g0_z hm_z
        replace hm_z := rn_getR (x := 168) (am_cur_of (i := (44, 3, .getfield 24, (12, 23, 1407), 0)) (by decide +kernel)) (by decide +kernel) hm_z
        replace hm_z := rn_bipush (w := 9) (am_cur_of (i := (47, 2, .bipush 9, (0, 0, 0), 0)) (by decide +kernel)) (by decide) hm_z
        replace hm_z := rn_aload_n (am_cur_of (i := (49, 1, .aload_n 0, (0, 0, 0), 0)) (by decide +kernel)) g0_z hm_z
        replace hm_z := rn_getI (v := rg_v h92_z 164 11) (am_cur_of (i := (50, 3, .getfield 188, (12, 11, 1395), 0)) (by decide +kernel)) (by decide +kernel) rfl hm_z
        replace hm_z := rn_iastore (N := 12) (q := 9) (am_cur_of (i := (53, 1, .iastore, (0, 0, 0), 0)) (by decide +kernel)) (by decide +kernel) rfl hm_z
        obtain ⟨p96_z, hm_z⟩ := hm_z
        replace hm_z := rn_iconst (w := 1) (am_cur_of (i := (54, 1, .iconst 1, (0, 0, 0), 0)) (by decide +kernel)) (by decide) hm_z
        replace hm_z := rn_iret (am_cur_of (i := (55, 1, .ireturn, (0, 0, 0), 0)) (by decide +kernel)) hm_z
        obtain ⟨e97_z, e98_z⟩ := hm_z
        rw [e98_z]
        exact ⟨(zM_u (o := 168) (k := 9) (by decide) z94_z), ⟨by rw [show rg_v (am_up h92_z 168 9 (.int (rg_v h92_z 164 11))) 164 17 = cb from (show rg_v (am_up h92_z 168 9 (.int (rg_v h92_z 164 11))) 164 17 = cb from e17_94)]; omega, by rw [show rg_v (am_up h92_z 168 9 (.int (rg_v h92_z 164 11))) 164 17 = cb from (show rg_v (am_up h92_z 168 9 (.int (rg_v h92_z 164 11))) 164 17 = cb from e17_94)]; omega⟩, ⟨by rw [show rg_v (am_up h92_z 168 9 (.int (rg_v h92_z 164 11))) 164 18 = ct from (show rg_v (am_up h92_z 168 9 (.int (rg_v h92_z 164 11))) 164 18 = ct from e18_94)]; omega, by rw [show rg_v (am_up h92_z 168 9 (.int (rg_v h92_z 164 11))) 164 18 = ct from (show rg_v (am_up h92_z 168 9 (.int (rg_v h92_z 164 11))) 164 18 = ct from e18_94)]; omega⟩, ⟨by rw [show rg_v (am_up h92_z 168 9 (.int (rg_v h92_z 164 11))) 164 19 = cl from (show rg_v (am_up h92_z 168 9 (.int (rg_v h92_z 164 11))) 164 19 = cl from e19_94)]; omega, by rw [show rg_v (am_up h92_z 168 9 (.int (rg_v h92_z 164 11))) 164 19 = cl from (show rg_v (am_up h92_z 168 9 (.int (rg_v h92_z 164 11))) 164 19 = cl from e19_94)]; omega⟩, ⟨by rw [show rg_v (am_up h92_z 168 9 (.int (rg_v h92_z 164 11))) 164 20 = cq from (show rg_v (am_up h92_z 168 9 (.int (rg_v h92_z 164 11))) 164 20 = cq from e20_94)]; omega, by rw [show rg_v (am_up h92_z 168 9 (.int (rg_v h92_z 164 11))) 164 20 = cq from (show rg_v (am_up h92_z 168 9 (.int (rg_v h92_z 164 11))) 164 20 = cq from e20_94)]; omega⟩⟩
      · replace b95_z : v94_z = (0 : Int32) ∧ v94_z.toInt = (0 : Int32).toInt := b95_z
        replace hm_z := rn_iconst (w := 0) (am_cur_of (i := (41, 1, .iconst 0, (0, 0, 0), 0)) (by decide +kernel)) (by decide) hm_z
        replace hm_z := rn_iret (am_cur_of (i := (42, 1, .ireturn, (0, 0, 0), 0)) (by decide +kernel)) hm_z
        obtain ⟨e99_z, e100_z⟩ := hm_z
        rw [e100_z]
        exact ⟨z94_z, ⟨by rw [show rg_v h92_z 164 17 = cb from e17_94]; omega, by rw [show rg_v h92_z 164 17 = cb from e17_94]; omega⟩, ⟨by rw [show rg_v h92_z 164 18 = ct from e18_94]; omega, by rw [show rg_v h92_z 164 18 = ct from e18_94]; omega⟩, ⟨by rw [show rg_v h92_z 164 19 = cl from e19_94]; omega, by rw [show rg_v h92_z 164 19 = cl from e19_94]; omega⟩, ⟨by rw [show rg_v h92_z 164 20 = cq from e20_94]; omega, by rw [show rg_v h92_z 164 20 = cq from e20_94]; omega⟩⟩
    · replace b89_z : v88_z = (0 : Int32) ∧ v88_z.toInt = (0 : Int32).toInt := b89_z
      replace hm_z := rn_iconst (w := 0) (am_cur_of (i := (18, 1, .iconst 0, (0, 0, 0), 0)) (by decide +kernel)) (by decide) hm_z
      replace hm_z := rn_iret (am_cur_of (i := (19, 1, .ireturn, (0, 0, 0), 0)) (by decide +kernel)) hm_z
      obtain ⟨e101_z, e102_z⟩ := hm_z
      rw [e102_z]
      exact ⟨z88_z, ⟨by rw [show rg_v h86_z 164 17 = cb from e17_88]; omega, by rw [show rg_v h86_z 164 17 = cb from e17_88]; omega⟩, ⟨by rw [show rg_v h86_z 164 18 = ct from e18_88]; omega, by rw [show rg_v h86_z 164 18 = ct from e18_88]; omega⟩, ⟨by rw [show rg_v h86_z 164 19 = cl from e19_88]; omega, by rw [show rg_v h86_z 164 19 = cl from e19_88]; omega⟩, ⟨by rw [show rg_v h86_z 164 20 = cq from e20_88]; omega, by rw [show rg_v h86_z 164 20 = cq from e20_88]; omega⟩⟩
theorem mz_turn {n : Nat} {g g' : am_H} {r : Option Value} (C : cr g) (hm_z : rn n am_m166 0 (lv_args 0 [.ref 164]) [] g r g') : zM g g' ∧ cr g' := by
  have z0_z : (0 : Int32).toInt = 0 := by decide
  have z2_z : (2 : Int32).toInt = 2 := by decide
  have z3_z : (3 : Int32).toInt = 3 := by decide
  have z4_z : (4 : Int32).toInt = 4 := by decide
  have z6_z : (6 : Int32).toInt = 6 := by decide
  have z8_z : (8 : Int32).toInt = 8 := by decide
  have g0_z : am_get (lv_args 0 [.ref 164]) 0 = some (.ref 164) := rfl
  obtain ⟨⟨b0_z, b4_z⟩, ⟨t0_z, t8_z⟩, ⟨l0_z, l6_z⟩, ⟨q0_z, q3_z⟩⟩ := C
  obtain ⟨cb, ecb⟩ : ∃ v, rg_v g 164 17 = v := ⟨_, rfl⟩
  rw [ecb] at b0_z b4_z
  obtain ⟨ct, ect⟩ : ∃ v, rg_v g 164 18 = v := ⟨_, rfl⟩
  rw [ect] at t0_z t8_z
  obtain ⟨cl, ecl⟩ : ∃ v, rg_v g 164 19 = v := ⟨_, rfl⟩
  rw [ecl] at l0_z l6_z
  obtain ⟨cq, ecq⟩ : ∃ v, rg_v g 164 20 = v := ⟨_, rfl⟩
  rw [ecq] at q0_z q3_z
  have z9_z : (9 : Int32).toInt = 9 := by decide
  replace hm_z := rn_aload_n (am_cur_of (i := (0, 1, .aload_n 0, (0, 0, 0), 0)) (by decide +kernel)) g0_z hm_z
  replace hm_z := rn_getI (v := ct) (am_cur_of (i := (1, 3, .getfield 204, (12, 18, 1402), 0)) (by decide +kernel)) (by decide +kernel) ect hm_z
  replace hm_z := rn_bipush (w := 8) (am_cur_of (i := (4, 2, .bipush 8, (0, 0, 0), 0)) (by decide +kernel)) (by decide) hm_z
  replace hm_z := rn_cmp (am_cur_of (i := (6, 3, .if_icmp .ne 9, (8, 0, 0), 0)) (by decide +kernel)) hm_z
  rcases hm_z with ⟨b103_z, hm_z⟩ | ⟨b103_z, hm_z⟩
  · replace b103_z : ¬ ct = (8 : Int32) ∧ ¬ ct.toInt = (8 : Int32).toInt := b103_z
    have ltct : ct.toInt < 8 := by omega
    have yct := rt_c1 (x := ct) (by omega) (by omega)
    have ict := ab_iadd (x := 8) (y := ct) (by omega) (by omega)
    have jct := rt_cl (x := 8 + ct) (by omega)
    replace hm_z := rn_aload_n (am_cur_of (i := (15, 1, .aload_n 0, (0, 0, 0), 0)) (by decide +kernel)) g0_z hm_z
    replace hm_z := rn_callV (M' := am_m151) (o := 164) (ar := []) (rest := []) (L := lv_args 0 [.ref 164]) (am_cur_of (i := (16, 3, .invokevirtual 191, (151, 1636, 3), 0)) (by decide +kernel)) rfl rfl rfl rfl hm_z
    obtain ⟨r104_z, h105_z, q106_z, hm_z⟩ := hm_z
    have vo := rn_void rfl q106_z
    subst vo
    have K107 := kp_of (a := 151) (by decide) rfl (as := [.ref 164]) (ra_Sc (fun _ e => by cases e; rfl) ra_S0) q106_z
    have z107_z := zM_t zM_r K107.1
    have e17_107 : rg_v h105_z 164 17 = cb := (K107.2 17 (by decide)).trans ecb
    have e18_107 : rg_v h105_z 164 18 = ct := (K107.2 18 (by decide)).trans ect
    have e19_107 : rg_v h105_z 164 19 = cl := (K107.2 19 (by decide)).trans ecl
    have e20_107 : rg_v h105_z 164 20 = cq := (K107.2 20 (by decide)).trans ecq
    replace hm_z : rn _ _ _ _ [] _ _ _ := hm_z
    replace hm_z := rn_aload_n (am_cur_of (i := (19, 1, .aload_n 0, (0, 0, 0), 0)) (by decide +kernel)) g0_z hm_z
    replace hm_z := rn_getI (v := rg_v h105_z 164 8) (am_cur_of (i := (20, 3, .getfield 157, (12, 8, 1392), 0)) (by decide +kernel)) (by decide +kernel) rfl hm_z
    replace hm_z := rn_iconst (w := 2) (am_cur_of (i := (23, 1, .iconst 2, (0, 0, 0), 0)) (by decide +kernel)) (by decide) hm_z
    replace hm_z := rn_cmp (am_cur_of (i := (24, 3, .if_icmp .eq 9, (18, 0, 0), 0)) (by decide +kernel)) hm_z
    rcases hm_z with ⟨b108_z, hm_z⟩ | ⟨b108_z, hm_z⟩
    · replace b108_z : (rg_v h105_z 164 8) = (2 : Int32) ∧ (rg_v h105_z 164 8).toInt = (2 : Int32).toInt := b108_z
      replace hm_z := rn_aload_n (am_cur_of (i := (33, 1, .aload_n 0, (0, 0, 0), 0)) (by decide +kernel)) g0_z hm_z
      replace hm_z := rn_getR (x := 169) (am_cur_of (i := (34, 3, .getfield 27, (12, 24, 1408), 0)) (by decide +kernel)) (by decide +kernel) hm_z
      replace hm_z := rn_iconst (w := 4) (am_cur_of (i := (37, 1, .iconst 4, (0, 0, 0), 0)) (by decide +kernel)) (by decide) hm_z
      replace hm_z := rn_aload_n (am_cur_of (i := (38, 1, .aload_n 0, (0, 0, 0), 0)) (by decide +kernel)) g0_z hm_z
      replace hm_z := rn_getI (v := cb) (am_cur_of (i := (39, 3, .getfield 201, (12, 17, 1401), 0)) (by decide +kernel)) (by decide +kernel) e17_107 hm_z
      replace hm_z := rn_aload_n (am_cur_of (i := (42, 1, .aload_n 0, (0, 0, 0), 0)) (by decide +kernel)) g0_z hm_z
      replace hm_z := rn_getI (v := rg_v h105_z 164 9) (am_cur_of (i := (43, 3, .getfield 168, (12, 9, 1393), 0)) (by decide +kernel)) (by decide +kernel) rfl hm_z
      replace hm_z := rn_callS (M' := am_m165) (ar := [.int (rg_v h105_z 164 9), .int cb, .int 4, .ref 169]) (rest := []) (L := lv_args 0 [.ref 169, .int 4, .int cb, .int (rg_v h105_z 164 9)]) (am_cur_of (i := (46, 3, .invokestatic 241, (165, 1692, 3), 0)) (by decide +kernel)) rfl rfl rfl rfl hm_z
      obtain ⟨r109_z, h110_z, q111_z, hm_z⟩ := hm_z
      obtain ⟨yy, i2_z, rfl, -⟩ := rp_find (N := 8) (by decide +kernel) (by decide) (by omega) (by decide) q111_z
      replace yy := yy.symm
      subst yy
      replace hm_z : rn _ _ _ _ [.int i2_z] _ _ _ := hm_z
      replace hm_z := rn_istore_n (am_cur_of (i := (49, 1, .istore_n 1, (0, 0, 0), 0)) (by decide +kernel)) hm_z
      obtain ⟨_, s112_z, s113_z, g1_z, hm_z⟩ := hm_z
      replace g0_z := s112_z 0 _ (by decide) rfl g0_z
      clear s112_z s113_z
      replace hm_z := rn_iload_n (am_cur_of (i := (50, 1, .iload_n 1, (0, 0, 0), 0)) (by decide +kernel)) g1_z hm_z
      replace hm_z := rn_if (am_cur_of (i := (51, 3, .ifCond .ge 9, (33, 0, 0), 0)) (by decide +kernel)) hm_z
      rcases hm_z with ⟨b114_z, hm_z⟩ | ⟨b114_z, hm_z⟩
      · replace b114_z : (0 : Int32).toInt ≤ i2_z.toInt := b114_z
        replace hm_z := rn_aload_n (am_cur_of (i := (60, 1, .aload_n 0, (0, 0, 0), 0)) (by decide +kernel)) g0_z hm_z
        replace hm_z := rn_callV (M' := am_m151) (o := 164) (ar := []) (rest := []) (L := lv_args 0 [.ref 164]) (am_cur_of (i := (61, 3, .invokevirtual 191, (151, 1636, 3), 0)) (by decide +kernel)) rfl rfl rfl rfl hm_z
        obtain ⟨r115_z, h116_z, q117_z, hm_z⟩ := hm_z
        have vo := rn_void rfl q117_z
        subst vo
        have K118 := kp_of (a := 151) (by decide) rfl (as := [.ref 164]) (ra_Sc (fun _ e => by cases e; rfl) ra_S0) q117_z
        have z118_z := zM_t z107_z K118.1
        have e17_118 : rg_v h116_z 164 17 = cb := (K118.2 17 (by decide)).trans e17_107
        have e18_118 : rg_v h116_z 164 18 = ct := (K118.2 18 (by decide)).trans e18_107
        have e19_118 : rg_v h116_z 164 19 = cl := (K118.2 19 (by decide)).trans e19_107
        have e20_118 : rg_v h116_z 164 20 = cq := (K118.2 20 (by decide)).trans e20_107
        replace hm_z : rn _ _ _ _ [] _ _ _ := hm_z
        replace hm_z := rn_aload_n (am_cur_of (i := (64, 1, .aload_n 0, (0, 0, 0), 0)) (by decide +kernel)) g0_z hm_z
        replace hm_z := rn_iconst (w := 1) (am_cur_of (i := (65, 1, .iconst 1, (0, 0, 0), 0)) (by decide +kernel)) (by decide) hm_z
        replace hm_z := rn_bipush (w := 20) (am_cur_of (i := (66, 2, .bipush 20, (0, 0, 0), 0)) (by decide +kernel)) (by decide) hm_z
        replace hm_z := rn_callV (M' := am_m161) (o := 164) (ar := [.int 20, .int 1]) (rest := []) (L := lv_args 0 [.ref 164, .int 1, .int 20]) (am_cur_of (i := (68, 3, .invokevirtual 197, (161, 1677, 3), 0)) (by decide +kernel)) rfl rfl rfl rfl hm_z
        obtain ⟨r119_z, h120_z, q121_z, hm_z⟩ := hm_z
        obtain ⟨v122_z, rfl⟩ := rn_ret (M := am_m161) rfl (by decide) q121_z
        have K122 := kp_of (a := 161) (by decide) rfl (as := [.ref 164, .int 1, .int 20]) (ra_Sc (fun _ e => by cases e; rfl) (ra_Sc (ra_Vi) (ra_Sc (ra_Vi) ra_S0))) q121_z
        have z122_z := zM_t z118_z K122.1
        have e17_122 : rg_v h120_z 164 17 = cb := (K122.2 17 (by decide)).trans e17_118
        have e18_122 : rg_v h120_z 164 18 = ct := (K122.2 18 (by decide)).trans e18_118
        have e19_122 : rg_v h120_z 164 19 = cl := (K122.2 19 (by decide)).trans e19_118
        have e20_122 : rg_v h120_z 164 20 = cq := (K122.2 20 (by decide)).trans e20_118
        replace hm_z : rn _ _ _ _ [.int v122_z] _ _ _ := hm_z
        replace hm_z := rn_if (am_cur_of (i := (71, 3, .ifCond .ne 5, (42, 0, 0), 0)) (by decide +kernel)) hm_z
        rcases hm_z with ⟨b123_z, hm_z⟩ | ⟨b123_z, hm_z⟩
        · replace b123_z : ¬ v122_z = (0 : Int32) ∧ ¬ v122_z.toInt = (0 : Int32).toInt := b123_z
          replace hm_z := rn_aload_n (am_cur_of (i := (76, 1, .aload_n 0, (0, 0, 0), 0)) (by decide +kernel)) g0_z hm_z
          replace hm_z := rn_getR (x := 171) (am_cur_of (i := (77, 3, .getfield 33, (12, 26, 1410), 0)) (by decide +kernel)) (by decide +kernel) hm_z
          replace hm_z := rn_bipush (w := 8) (am_cur_of (i := (80, 2, .bipush 8, (0, 0, 0), 0)) (by decide +kernel)) (by decide) hm_z
          replace hm_z := rn_aload_n (am_cur_of (i := (82, 1, .aload_n 0, (0, 0, 0), 0)) (by decide +kernel)) g0_z hm_z
          replace hm_z := rn_getI (v := ct) (am_cur_of (i := (83, 3, .getfield 204, (12, 18, 1402), 0)) (by decide +kernel)) (by decide +kernel) e18_122 hm_z
          replace hm_z := rn_iadd (w := (8 : Int32) + ct) (am_cur_of (i := (86, 1, .iadd, (0, 0, 0), 0)) (by decide +kernel)) rfl hm_z
          replace hm_z := rn_iload_n (am_cur_of (i := (87, 1, .iload_n 1, (0, 0, 0), 0)) (by decide +kernel)) g1_z hm_z
          replace hm_z := rn_iastore (N := 16) (q := ((8 : Int32) + ct).toNatClampNeg) (am_cur_of (i := (88, 1, .iastore, (0, 0, 0), 0)) (by decide +kernel)) (by decide +kernel) rfl hm_z
          obtain ⟨p124_z, hm_z⟩ := hm_z
          replace hm_z := rn_aload_n (am_cur_of (i := (89, 1, .aload_n 0, (0, 0, 0), 0)) (by decide +kernel)) g0_z hm_z
          replace hm_z := rn_getR (x := 172) (am_cur_of (i := (90, 3, .getfield 36, (12, 27, 1411), 0)) (by decide +kernel)) (by decide +kernel) hm_z
          replace hm_z := rn_bipush (w := 8) (am_cur_of (i := (93, 2, .bipush 8, (0, 0, 0), 0)) (by decide +kernel)) (by decide) hm_z
          replace hm_z := rn_aload_n (am_cur_of (i := (95, 1, .aload_n 0, (0, 0, 0), 0)) (by decide +kernel)) g0_z hm_z
          replace hm_z := rn_getI (v := ct) (am_cur_of (i := (96, 3, .getfield 204, (12, 18, 1402), 0)) (by decide +kernel)) (by decide +kernel) (show rg_v (am_up h120_z 171 (((8 : Int32) + ct).toNatClampNeg) (.int i2_z)) 164 18 = ct from e18_122) hm_z
          replace hm_z := rn_iadd (w := (8 : Int32) + ct) (am_cur_of (i := (99, 1, .iadd, (0, 0, 0), 0)) (by decide +kernel)) rfl hm_z
          replace hm_z := rn_aload_n (am_cur_of (i := (100, 1, .aload_n 0, (0, 0, 0), 0)) (by decide +kernel)) g0_z hm_z
          replace hm_z := rn_getI (v := rg_v h120_z 164 11) (am_cur_of (i := (101, 3, .getfield 188, (12, 11, 1395), 0)) (by decide +kernel)) (by decide +kernel) (show rg_v (am_up h120_z 171 (((8 : Int32) + ct).toNatClampNeg) (.int i2_z)) 164 11 = rg_v h120_z 164 11 from rfl) hm_z
          replace hm_z := rn_iastore (N := 16) (q := ((8 : Int32) + ct).toNatClampNeg) (am_cur_of (i := (104, 1, .iastore, (0, 0, 0), 0)) (by decide +kernel)) (by decide +kernel) rfl hm_z
          obtain ⟨p125_z, hm_z⟩ := hm_z
          replace hm_z := rn_aload_n (am_cur_of (i := (105, 1, .aload_n 0, (0, 0, 0), 0)) (by decide +kernel)) g0_z hm_z
          replace hm_z := rn_dup (am_cur_of (i := (106, 1, .dup, (0, 0, 0), 0)) (by decide +kernel)) hm_z
          replace hm_z := rn_getI (v := ct) (am_cur_of (i := (107, 3, .getfield 204, (12, 18, 1402), 0)) (by decide +kernel)) (by decide +kernel) (show rg_v (am_up (am_up h120_z 171 (((8 : Int32) + ct).toNatClampNeg) (.int i2_z)) 172 (((8 : Int32) + ct).toNatClampNeg) (.int (rg_v h120_z 164 11))) 164 18 = ct from e18_122) hm_z
          replace hm_z := rn_iconst (w := 1) (am_cur_of (i := (110, 1, .iconst 1, (0, 0, 0), 0)) (by decide +kernel)) (by decide) hm_z
          replace hm_z := rn_iadd (w := ct + 1) (am_cur_of (i := (111, 1, .iadd, (0, 0, 0), 0)) (by decide +kernel)) rfl hm_z
          replace hm_z := rn_put (am_cur_of (i := (112, 3, .putfield 204, (12, 18, 1402), 0)) (by decide +kernel)) (by decide +kernel) hm_z
          replace hm_z := rn_iconst (w := 1) (am_cur_of (i := (115, 1, .iconst 1, (0, 0, 0), 0)) (by decide +kernel)) (by decide) hm_z
          replace hm_z := rn_iret (am_cur_of (i := (116, 1, .ireturn, (0, 0, 0), 0)) (by decide +kernel)) hm_z
          obtain ⟨e126_z, e127_z⟩ := hm_z
          rw [e127_z]
          exact ⟨(zM_u (o := 164) (k := 18) (by decide) (zM_u (o := 172) (k := ((8 : Int32) + ct).toNatClampNeg) (show Nat.ble 8 (((8 : Int32) + ct).toNatClampNeg) = true from Nat.ble_eq_true_of_le (by omega)) (zM_u (o := 171) (k := ((8 : Int32) + ct).toNatClampNeg) (show Nat.ble 8 (((8 : Int32) + ct).toNatClampNeg) = true from Nat.ble_eq_true_of_le (by omega)) z122_z))), ⟨by rw [show rg_v (am_up (am_up (am_up h120_z 171 (((8 : Int32) + ct).toNatClampNeg) (.int i2_z)) 172 (((8 : Int32) + ct).toNatClampNeg) (.int (rg_v h120_z 164 11))) 164 18 (.int (ct + 1))) 164 17 = cb from (show rg_v (am_up (am_up (am_up h120_z 171 (((8 : Int32) + ct).toNatClampNeg) (.int i2_z)) 172 (((8 : Int32) + ct).toNatClampNeg) (.int (rg_v h120_z 164 11))) 164 18 (.int (ct + 1))) 164 17 = cb from e17_122)]; omega, by rw [show rg_v (am_up (am_up (am_up h120_z 171 (((8 : Int32) + ct).toNatClampNeg) (.int i2_z)) 172 (((8 : Int32) + ct).toNatClampNeg) (.int (rg_v h120_z 164 11))) 164 18 (.int (ct + 1))) 164 17 = cb from (show rg_v (am_up (am_up (am_up h120_z 171 (((8 : Int32) + ct).toNatClampNeg) (.int i2_z)) 172 (((8 : Int32) + ct).toNatClampNeg) (.int (rg_v h120_z 164 11))) 164 18 (.int (ct + 1))) 164 17 = cb from e17_122)]; omega⟩, ⟨by rw [show rg_v (am_up (am_up (am_up h120_z 171 (((8 : Int32) + ct).toNatClampNeg) (.int i2_z)) 172 (((8 : Int32) + ct).toNatClampNeg) (.int (rg_v h120_z 164 11))) 164 18 (.int (ct + 1))) 164 18 = ct + 1 from (show rg_v (am_up (am_up (am_up h120_z 171 (((8 : Int32) + ct).toNatClampNeg) (.int i2_z)) 172 (((8 : Int32) + ct).toNatClampNeg) (.int (rg_v h120_z 164 11))) 164 18 (.int (ct + 1))) 164 18 = ct + 1 from rfl)]; omega, by rw [show rg_v (am_up (am_up (am_up h120_z 171 (((8 : Int32) + ct).toNatClampNeg) (.int i2_z)) 172 (((8 : Int32) + ct).toNatClampNeg) (.int (rg_v h120_z 164 11))) 164 18 (.int (ct + 1))) 164 18 = ct + 1 from (show rg_v (am_up (am_up (am_up h120_z 171 (((8 : Int32) + ct).toNatClampNeg) (.int i2_z)) 172 (((8 : Int32) + ct).toNatClampNeg) (.int (rg_v h120_z 164 11))) 164 18 (.int (ct + 1))) 164 18 = ct + 1 from rfl)]; omega⟩, ⟨by rw [show rg_v (am_up (am_up (am_up h120_z 171 (((8 : Int32) + ct).toNatClampNeg) (.int i2_z)) 172 (((8 : Int32) + ct).toNatClampNeg) (.int (rg_v h120_z 164 11))) 164 18 (.int (ct + 1))) 164 19 = cl from (show rg_v (am_up (am_up (am_up h120_z 171 (((8 : Int32) + ct).toNatClampNeg) (.int i2_z)) 172 (((8 : Int32) + ct).toNatClampNeg) (.int (rg_v h120_z 164 11))) 164 18 (.int (ct + 1))) 164 19 = cl from e19_122)]; omega, by rw [show rg_v (am_up (am_up (am_up h120_z 171 (((8 : Int32) + ct).toNatClampNeg) (.int i2_z)) 172 (((8 : Int32) + ct).toNatClampNeg) (.int (rg_v h120_z 164 11))) 164 18 (.int (ct + 1))) 164 19 = cl from (show rg_v (am_up (am_up (am_up h120_z 171 (((8 : Int32) + ct).toNatClampNeg) (.int i2_z)) 172 (((8 : Int32) + ct).toNatClampNeg) (.int (rg_v h120_z 164 11))) 164 18 (.int (ct + 1))) 164 19 = cl from e19_122)]; omega⟩, ⟨by rw [show rg_v (am_up (am_up (am_up h120_z 171 (((8 : Int32) + ct).toNatClampNeg) (.int i2_z)) 172 (((8 : Int32) + ct).toNatClampNeg) (.int (rg_v h120_z 164 11))) 164 18 (.int (ct + 1))) 164 20 = cq from (show rg_v (am_up (am_up (am_up h120_z 171 (((8 : Int32) + ct).toNatClampNeg) (.int i2_z)) 172 (((8 : Int32) + ct).toNatClampNeg) (.int (rg_v h120_z 164 11))) 164 18 (.int (ct + 1))) 164 20 = cq from e20_122)]; omega, by rw [show rg_v (am_up (am_up (am_up h120_z 171 (((8 : Int32) + ct).toNatClampNeg) (.int i2_z)) 172 (((8 : Int32) + ct).toNatClampNeg) (.int (rg_v h120_z 164 11))) 164 18 (.int (ct + 1))) 164 20 = cq from (show rg_v (am_up (am_up (am_up h120_z 171 (((8 : Int32) + ct).toNatClampNeg) (.int i2_z)) 172 (((8 : Int32) + ct).toNatClampNeg) (.int (rg_v h120_z 164 11))) 164 18 (.int (ct + 1))) 164 20 = cq from e20_122)]; omega⟩⟩
        · replace b123_z : v122_z = (0 : Int32) ∧ v122_z.toInt = (0 : Int32).toInt := b123_z
          replace hm_z := rn_iconst (w := 0) (am_cur_of (i := (74, 1, .iconst 0, (0, 0, 0), 0)) (by decide +kernel)) (by decide) hm_z
          replace hm_z := rn_iret (am_cur_of (i := (75, 1, .ireturn, (0, 0, 0), 0)) (by decide +kernel)) hm_z
          obtain ⟨e128_z, e129_z⟩ := hm_z
          rw [e129_z]
          exact ⟨z122_z, ⟨by rw [show rg_v h120_z 164 17 = cb from e17_122]; omega, by rw [show rg_v h120_z 164 17 = cb from e17_122]; omega⟩, ⟨by rw [show rg_v h120_z 164 18 = ct from e18_122]; omega, by rw [show rg_v h120_z 164 18 = ct from e18_122]; omega⟩, ⟨by rw [show rg_v h120_z 164 19 = cl from e19_122]; omega, by rw [show rg_v h120_z 164 19 = cl from e19_122]; omega⟩, ⟨by rw [show rg_v h120_z 164 20 = cq from e20_122]; omega, by rw [show rg_v h120_z 164 20 = cq from e20_122]; omega⟩⟩
      · replace b114_z : i2_z.toInt < (0 : Int32).toInt := b114_z
        replace hm_z := rn_aload_n (am_cur_of (i := (54, 1, .aload_n 0, (0, 0, 0), 0)) (by decide +kernel)) g0_z hm_z
        replace hm_z := rn_iconst (w := 4) (am_cur_of (i := (55, 1, .iconst 4, (0, 0, 0), 0)) (by decide +kernel)) (by decide) hm_z
        replace hm_z := rn_callV (M' := am_m158) (o := 164) (ar := [.int 4]) (rest := []) (L := lv_args 0 [.ref 164, .int 4]) (am_cur_of (i := (56, 3, .invokevirtual 181, (158, 1665, 3), 0)) (by decide +kernel)) rfl rfl rfl rfl hm_z
        obtain ⟨r130_z, h131_z, q132_z, hm_z⟩ := hm_z
        obtain ⟨v133_z, rfl⟩ := rn_ret (M := am_m158) rfl (by decide) q132_z
        have K133 := kp_of (a := 158) (by decide) rfl (as := [.ref 164, .int 4]) (ra_Sc (fun _ e => by cases e; rfl) (ra_Sc (ra_Vi) ra_S0)) q132_z
        have z133_z := zM_t z107_z K133.1
        have e17_133 : rg_v h131_z 164 17 = cb := (K133.2 17 (by decide)).trans e17_107
        have e18_133 : rg_v h131_z 164 18 = ct := (K133.2 18 (by decide)).trans e18_107
        have e19_133 : rg_v h131_z 164 19 = cl := (K133.2 19 (by decide)).trans e19_107
        have e20_133 : rg_v h131_z 164 20 = cq := (K133.2 20 (by decide)).trans e20_107
        replace hm_z : rn _ _ _ _ [.int v133_z] _ _ _ := hm_z
        replace hm_z := rn_iret (am_cur_of (i := (59, 1, .ireturn, (0, 0, 0), 0)) (by decide +kernel)) hm_z
        obtain ⟨e134_z, e135_z⟩ := hm_z
        rw [e135_z]
        exact ⟨z133_z, ⟨by rw [show rg_v h131_z 164 17 = cb from e17_133]; omega, by rw [show rg_v h131_z 164 17 = cb from e17_133]; omega⟩, ⟨by rw [show rg_v h131_z 164 18 = ct from e18_133]; omega, by rw [show rg_v h131_z 164 18 = ct from e18_133]; omega⟩, ⟨by rw [show rg_v h131_z 164 19 = cl from e19_133]; omega, by rw [show rg_v h131_z 164 19 = cl from e19_133]; omega⟩, ⟨by rw [show rg_v h131_z 164 20 = cq from e20_133]; omega, by rw [show rg_v h131_z 164 20 = cq from e20_133]; omega⟩⟩
    · replace b108_z : ¬ (rg_v h105_z 164 8) = (2 : Int32) ∧ ¬ (rg_v h105_z 164 8).toInt = (2 : Int32).toInt := b108_z
      replace hm_z := rn_aload_n (am_cur_of (i := (27, 1, .aload_n 0, (0, 0, 0), 0)) (by decide +kernel)) g0_z hm_z
      replace hm_z := rn_iconst (w := 1) (am_cur_of (i := (28, 1, .iconst 1, (0, 0, 0), 0)) (by decide +kernel)) (by decide) hm_z
      replace hm_z := rn_callV (M' := am_m158) (o := 164) (ar := [.int 1]) (rest := []) (L := lv_args 0 [.ref 164, .int 1]) (am_cur_of (i := (29, 3, .invokevirtual 181, (158, 1665, 3), 0)) (by decide +kernel)) rfl rfl rfl rfl hm_z
      obtain ⟨r136_z, h137_z, q138_z, hm_z⟩ := hm_z
      obtain ⟨v139_z, rfl⟩ := rn_ret (M := am_m158) rfl (by decide) q138_z
      have K139 := kp_of (a := 158) (by decide) rfl (as := [.ref 164, .int 1]) (ra_Sc (fun _ e => by cases e; rfl) (ra_Sc (ra_Vi) ra_S0)) q138_z
      have z139_z := zM_t z107_z K139.1
      have e17_139 : rg_v h137_z 164 17 = cb := (K139.2 17 (by decide)).trans e17_107
      have e18_139 : rg_v h137_z 164 18 = ct := (K139.2 18 (by decide)).trans e18_107
      have e19_139 : rg_v h137_z 164 19 = cl := (K139.2 19 (by decide)).trans e19_107
      have e20_139 : rg_v h137_z 164 20 = cq := (K139.2 20 (by decide)).trans e20_107
      replace hm_z : rn _ _ _ _ [.int v139_z] _ _ _ := hm_z
      replace hm_z := rn_iret (am_cur_of (i := (32, 1, .ireturn, (0, 0, 0), 0)) (by decide +kernel)) hm_z
      obtain ⟨e140_z, e141_z⟩ := hm_z
      rw [e141_z]
      exact ⟨z139_z, ⟨by rw [show rg_v h137_z 164 17 = cb from e17_139]; omega, by rw [show rg_v h137_z 164 17 = cb from e17_139]; omega⟩, ⟨by rw [show rg_v h137_z 164 18 = ct from e18_139]; omega, by rw [show rg_v h137_z 164 18 = ct from e18_139]; omega⟩, ⟨by rw [show rg_v h137_z 164 19 = cl from e19_139]; omega, by rw [show rg_v h137_z 164 19 = cl from e19_139]; omega⟩, ⟨by rw [show rg_v h137_z 164 20 = cq from e20_139]; omega, by rw [show rg_v h137_z 164 20 = cq from e20_139]; omega⟩⟩
  · replace b103_z : ct = (8 : Int32) ∧ ct.toInt = (8 : Int32).toInt := b103_z
    replace hm_z := rn_aload_n (am_cur_of (i := (9, 1, .aload_n 0, (0, 0, 0), 0)) (by decide +kernel)) g0_z hm_z
    replace hm_z := rn_iconst (w := 2) (am_cur_of (i := (10, 1, .iconst 2, (0, 0, 0), 0)) (by decide +kernel)) (by decide) hm_z
    replace hm_z := rn_callV (M' := am_m158) (o := 164) (ar := [.int 2]) (rest := []) (L := lv_args 0 [.ref 164, .int 2]) (am_cur_of (i := (11, 3, .invokevirtual 181, (158, 1665, 3), 0)) (by decide +kernel)) rfl rfl rfl rfl hm_z
    obtain ⟨r142_z, h143_z, q144_z, hm_z⟩ := hm_z
    obtain ⟨v145_z, rfl⟩ := rn_ret (M := am_m158) rfl (by decide) q144_z
    have K145 := kp_of (a := 158) (by decide) rfl (as := [.ref 164, .int 2]) (ra_Sc (fun _ e => by cases e; rfl) (ra_Sc (ra_Vi) ra_S0)) q144_z
    have z145_z := zM_t zM_r K145.1
    have e17_145 : rg_v h143_z 164 17 = cb := (K145.2 17 (by decide)).trans ecb
    have e18_145 : rg_v h143_z 164 18 = ct := (K145.2 18 (by decide)).trans ect
    have e19_145 : rg_v h143_z 164 19 = cl := (K145.2 19 (by decide)).trans ecl
    have e20_145 : rg_v h143_z 164 20 = cq := (K145.2 20 (by decide)).trans ecq
    replace hm_z : rn _ _ _ _ [.int v145_z] _ _ _ := hm_z
    replace hm_z := rn_iret (am_cur_of (i := (14, 1, .ireturn, (0, 0, 0), 0)) (by decide +kernel)) hm_z
    obtain ⟨e146_z, e147_z⟩ := hm_z
    rw [e147_z]
    exact ⟨z145_z, ⟨by rw [show rg_v h143_z 164 17 = cb from e17_145]; omega, by rw [show rg_v h143_z 164 17 = cb from e17_145]; omega⟩, ⟨by rw [show rg_v h143_z 164 18 = ct from e18_145]; omega, by rw [show rg_v h143_z 164 18 = ct from e18_145]; omega⟩, ⟨by rw [show rg_v h143_z 164 19 = cl from e19_145]; omega, by rw [show rg_v h143_z 164 19 = cl from e19_145]; omega⟩, ⟨by rw [show rg_v h143_z 164 20 = cq from e20_145]; omega, by rw [show rg_v h143_z 164 20 = cq from e20_145]; omega⟩⟩
theorem mz_leak {n : Nat} {g g' : am_H} {r : Option Value} (C : cr g) (hm_z : rn n am_m168 0 (lv_args 0 [.ref 164]) [] g r g') : zM g g' ∧ cr g' := by
  have z0_z : (0 : Int32).toInt = 0 := by decide
  have z3_z : (3 : Int32).toInt = 3 := by decide
  have z4_z : (4 : Int32).toInt = 4 := by decide
  have z6_z : (6 : Int32).toInt = 6 := by decide
  have z8_z : (8 : Int32).toInt = 8 := by decide
  have g0_z : am_get (lv_args 0 [.ref 164]) 0 = some (.ref 164) := rfl
  obtain ⟨⟨b0_z, b4_z⟩, ⟨t0_z, t8_z⟩, ⟨l0_z, l6_z⟩, ⟨q0_z, q3_z⟩⟩ := C
  obtain ⟨cb, ecb⟩ : ∃ v, rg_v g 164 17 = v := ⟨_, rfl⟩
  rw [ecb] at b0_z b4_z
  obtain ⟨ct, ect⟩ : ∃ v, rg_v g 164 18 = v := ⟨_, rfl⟩
  rw [ect] at t0_z t8_z
  obtain ⟨cl, ecl⟩ : ∃ v, rg_v g 164 19 = v := ⟨_, rfl⟩
  rw [ecl] at l0_z l6_z
  obtain ⟨cq, ecq⟩ : ∃ v, rg_v g 164 20 = v := ⟨_, rfl⟩
  rw [ecq] at q0_z q3_z
  have z9_z : (9 : Int32).toInt = 9 := by decide
  replace hm_z := rn_aload_n (am_cur_of (i := (0, 1, .aload_n 0, (0, 0, 0), 0)) (by decide +kernel)) g0_z hm_z
  replace hm_z := rn_getI (v := cl) (am_cur_of (i := (1, 3, .getfield 207, (12, 19, 1403), 0)) (by decide +kernel)) (by decide +kernel) ecl hm_z
  replace hm_z := rn_bipush (w := 6) (am_cur_of (i := (4, 2, .bipush 6, (0, 0, 0), 0)) (by decide +kernel)) (by decide) hm_z
  replace hm_z := rn_cmp (am_cur_of (i := (6, 3, .if_icmp .ne 9, (8, 0, 0), 0)) (by decide +kernel)) hm_z
  rcases hm_z with ⟨b148_z, hm_z⟩ | ⟨b148_z, hm_z⟩
  · replace b148_z : ¬ cl = (6 : Int32) ∧ ¬ cl.toInt = (6 : Int32).toInt := b148_z
    have ltcl : cl.toInt < 6 := by omega
    have ycl := rt_c1 (x := cl) (by omega) (by omega)
    have icl := ab_iadd (x := 6) (y := cl) (by omega) (by omega)
    have jcl := rt_cl (x := 6 + cl) (by omega)
    replace hm_z := rn_aload_n (am_cur_of (i := (15, 1, .aload_n 0, (0, 0, 0), 0)) (by decide +kernel)) g0_z hm_z
    replace hm_z := rn_callV (M' := am_m151) (o := 164) (ar := []) (rest := []) (L := lv_args 0 [.ref 164]) (am_cur_of (i := (16, 3, .invokevirtual 191, (151, 1636, 3), 0)) (by decide +kernel)) rfl rfl rfl rfl hm_z
    obtain ⟨r149_z, h150_z, q151_z, hm_z⟩ := hm_z
    have vo := rn_void rfl q151_z
    subst vo
    have K152 := kp_of (a := 151) (by decide) rfl (as := [.ref 164]) (ra_Sc (fun _ e => by cases e; rfl) ra_S0) q151_z
    have z152_z := zM_t zM_r K152.1
    have e17_152 : rg_v h150_z 164 17 = cb := (K152.2 17 (by decide)).trans ecb
    have e18_152 : rg_v h150_z 164 18 = ct := (K152.2 18 (by decide)).trans ect
    have e19_152 : rg_v h150_z 164 19 = cl := (K152.2 19 (by decide)).trans ecl
    have e20_152 : rg_v h150_z 164 20 = cq := (K152.2 20 (by decide)).trans ecq
    replace hm_z : rn _ _ _ _ [] _ _ _ := hm_z
    replace hm_z := rn_aload_n (am_cur_of (i := (19, 1, .aload_n 0, (0, 0, 0), 0)) (by decide +kernel)) g0_z hm_z
    replace hm_z := rn_iconst (w := 1) (am_cur_of (i := (20, 1, .iconst 1, (0, 0, 0), 0)) (by decide +kernel)) (by decide) hm_z
    replace hm_z := rn_bipush (w := 99) (am_cur_of (i := (21, 2, .bipush 99, (0, 0, 0), 0)) (by decide +kernel)) (by decide) hm_z
    replace hm_z := rn_callV (M' := am_m161) (o := 164) (ar := [.int 99, .int 1]) (rest := []) (L := lv_args 0 [.ref 164, .int 1, .int 99]) (am_cur_of (i := (23, 3, .invokevirtual 197, (161, 1677, 3), 0)) (by decide +kernel)) rfl rfl rfl rfl hm_z
    obtain ⟨r153_z, h154_z, q155_z, hm_z⟩ := hm_z
    obtain ⟨v156_z, rfl⟩ := rn_ret (M := am_m161) rfl (by decide) q155_z
    have K156 := kp_of (a := 161) (by decide) rfl (as := [.ref 164, .int 1, .int 99]) (ra_Sc (fun _ e => by cases e; rfl) (ra_Sc (ra_Vi) (ra_Sc (ra_Vi) ra_S0))) q155_z
    have z156_z := zM_t z152_z K156.1
    have e17_156 : rg_v h154_z 164 17 = cb := (K156.2 17 (by decide)).trans e17_152
    have e18_156 : rg_v h154_z 164 18 = ct := (K156.2 18 (by decide)).trans e18_152
    have e19_156 : rg_v h154_z 164 19 = cl := (K156.2 19 (by decide)).trans e19_152
    have e20_156 : rg_v h154_z 164 20 = cq := (K156.2 20 (by decide)).trans e20_152
    replace hm_z : rn _ _ _ _ [.int v156_z] _ _ _ := hm_z
    replace hm_z := rn_if (am_cur_of (i := (26, 3, .ifCond .ne 5, (17, 0, 0), 0)) (by decide +kernel)) hm_z
    rcases hm_z with ⟨b157_z, hm_z⟩ | ⟨b157_z, hm_z⟩
    · replace b157_z : ¬ v156_z = (0 : Int32) ∧ ¬ v156_z.toInt = (0 : Int32).toInt := b157_z
      replace hm_z := rn_aload_n (am_cur_of (i := (31, 1, .aload_n 0, (0, 0, 0), 0)) (by decide +kernel)) g0_z hm_z
      replace hm_z := rn_getR (x := 173) (am_cur_of (i := (32, 3, .getfield 39, (12, 28, 1412), 0)) (by decide +kernel)) (by decide +kernel) hm_z
      replace hm_z := rn_bipush (w := 6) (am_cur_of (i := (35, 2, .bipush 6, (0, 0, 0), 0)) (by decide +kernel)) (by decide) hm_z
      replace hm_z := rn_aload_n (am_cur_of (i := (37, 1, .aload_n 0, (0, 0, 0), 0)) (by decide +kernel)) g0_z hm_z
      replace hm_z := rn_getI (v := cl) (am_cur_of (i := (38, 3, .getfield 207, (12, 19, 1403), 0)) (by decide +kernel)) (by decide +kernel) e19_156 hm_z
      replace hm_z := rn_iadd (w := (6 : Int32) + cl) (am_cur_of (i := (41, 1, .iadd, (0, 0, 0), 0)) (by decide +kernel)) rfl hm_z
      replace hm_z := rn_aload_n (am_cur_of (i := (42, 1, .aload_n 0, (0, 0, 0), 0)) (by decide +kernel)) g0_z hm_z
      replace hm_z := rn_getI (v := rg_v h154_z 164 11) (am_cur_of (i := (43, 3, .getfield 188, (12, 11, 1395), 0)) (by decide +kernel)) (by decide +kernel) rfl hm_z
      replace hm_z := rn_iastore (N := 12) (q := ((6 : Int32) + cl).toNatClampNeg) (am_cur_of (i := (46, 1, .iastore, (0, 0, 0), 0)) (by decide +kernel)) (by decide +kernel) rfl hm_z
      obtain ⟨p158_z, hm_z⟩ := hm_z
      replace hm_z := rn_aload_n (am_cur_of (i := (47, 1, .aload_n 0, (0, 0, 0), 0)) (by decide +kernel)) g0_z hm_z
      replace hm_z := rn_iconst (w := 0) (am_cur_of (i := (48, 1, .iconst 0, (0, 0, 0), 0)) (by decide +kernel)) (by decide) hm_z
      replace hm_z := rn_bipush (w := 99) (am_cur_of (i := (49, 2, .bipush 99, (0, 0, 0), 0)) (by decide +kernel)) (by decide) hm_z
      replace hm_z := rn_callV (M' := am_m161) (o := 164) (ar := [.int 99, .int 0]) (rest := []) (L := lv_args 0 [.ref 164, .int 0, .int 99]) (am_cur_of (i := (51, 3, .invokevirtual 197, (161, 1677, 3), 0)) (by decide +kernel)) rfl rfl rfl rfl hm_z
      obtain ⟨r159_z, h160_z, q161_z, hm_z⟩ := hm_z
      obtain ⟨v162_z, rfl⟩ := rn_ret (M := am_m161) rfl (by decide) q161_z
      have K162 := kp_of (a := 161) (by decide) rfl (as := [.ref 164, .int 0, .int 99]) (ra_Sc (fun _ e => by cases e; rfl) (ra_Sc (ra_Vi) (ra_Sc (ra_Vi) ra_S0))) q161_z
      have z162_z := zM_t (zM_u (o := 173) (k := ((6 : Int32) + cl).toNatClampNeg) (show Nat.ble 6 (((6 : Int32) + cl).toNatClampNeg) = true from Nat.ble_eq_true_of_le (by omega)) z156_z) K162.1
      have e17_162 : rg_v h160_z 164 17 = cb := (K162.2 17 (by decide)).trans (show rg_v (am_up h154_z 173 (((6 : Int32) + cl).toNatClampNeg) (.int (rg_v h154_z 164 11))) 164 17 = cb from e17_156)
      have e18_162 : rg_v h160_z 164 18 = ct := (K162.2 18 (by decide)).trans (show rg_v (am_up h154_z 173 (((6 : Int32) + cl).toNatClampNeg) (.int (rg_v h154_z 164 11))) 164 18 = ct from e18_156)
      have e19_162 : rg_v h160_z 164 19 = cl := (K162.2 19 (by decide)).trans (show rg_v (am_up h154_z 173 (((6 : Int32) + cl).toNatClampNeg) (.int (rg_v h154_z 164 11))) 164 19 = cl from e19_156)
      have e20_162 : rg_v h160_z 164 20 = cq := (K162.2 20 (by decide)).trans (show rg_v (am_up h154_z 173 (((6 : Int32) + cl).toNatClampNeg) (.int (rg_v h154_z 164 11))) 164 20 = cq from e20_156)
      replace hm_z : rn _ _ _ _ [.int v162_z] _ _ _ := hm_z
      replace hm_z := rn_if (am_cur_of (i := (54, 3, .ifCond .ne 5, (33, 0, 0), 0)) (by decide +kernel)) hm_z
      rcases hm_z with ⟨b163_z, hm_z⟩ | ⟨b163_z, hm_z⟩
      · replace b163_z : ¬ v162_z = (0 : Int32) ∧ ¬ v162_z.toInt = (0 : Int32).toInt := b163_z
        replace hm_z := rn_aload_n (am_cur_of (i := (59, 1, .aload_n 0, (0, 0, 0), 0)) (by decide +kernel)) g0_z hm_z
        replace hm_z := rn_getR (x := 174) (am_cur_of (i := (60, 3, .getfield 42, (12, 29, 1413), 0)) (by decide +kernel)) (by decide +kernel) hm_z
        replace hm_z := rn_bipush (w := 6) (am_cur_of (i := (63, 2, .bipush 6, (0, 0, 0), 0)) (by decide +kernel)) (by decide) hm_z
        replace hm_z := rn_aload_n (am_cur_of (i := (65, 1, .aload_n 0, (0, 0, 0), 0)) (by decide +kernel)) g0_z hm_z
        replace hm_z := rn_getI (v := cl) (am_cur_of (i := (66, 3, .getfield 207, (12, 19, 1403), 0)) (by decide +kernel)) (by decide +kernel) e19_162 hm_z
        replace hm_z := rn_iadd (w := (6 : Int32) + cl) (am_cur_of (i := (69, 1, .iadd, (0, 0, 0), 0)) (by decide +kernel)) rfl hm_z
        replace hm_z := rn_aload_n (am_cur_of (i := (70, 1, .aload_n 0, (0, 0, 0), 0)) (by decide +kernel)) g0_z hm_z
        replace hm_z := rn_getI (v := rg_v h160_z 164 11) (am_cur_of (i := (71, 3, .getfield 188, (12, 11, 1395), 0)) (by decide +kernel)) (by decide +kernel) rfl hm_z
        replace hm_z := rn_iastore (N := 12) (q := ((6 : Int32) + cl).toNatClampNeg) (am_cur_of (i := (74, 1, .iastore, (0, 0, 0), 0)) (by decide +kernel)) (by decide +kernel) rfl hm_z
        obtain ⟨p164_z, hm_z⟩ := hm_z
        replace hm_z := rn_aload_n (am_cur_of (i := (75, 1, .aload_n 0, (0, 0, 0), 0)) (by decide +kernel)) g0_z hm_z
        replace hm_z := rn_dup (am_cur_of (i := (76, 1, .dup, (0, 0, 0), 0)) (by decide +kernel)) hm_z
        replace hm_z := rn_getI (v := cl) (am_cur_of (i := (77, 3, .getfield 207, (12, 19, 1403), 0)) (by decide +kernel)) (by decide +kernel) (show rg_v (am_up h160_z 174 (((6 : Int32) + cl).toNatClampNeg) (.int (rg_v h160_z 164 11))) 164 19 = cl from e19_162) hm_z
        replace hm_z := rn_iconst (w := 1) (am_cur_of (i := (80, 1, .iconst 1, (0, 0, 0), 0)) (by decide +kernel)) (by decide) hm_z
        replace hm_z := rn_iadd (w := cl + 1) (am_cur_of (i := (81, 1, .iadd, (0, 0, 0), 0)) (by decide +kernel)) rfl hm_z
        replace hm_z := rn_put (am_cur_of (i := (82, 3, .putfield 207, (12, 19, 1403), 0)) (by decide +kernel)) (by decide +kernel) hm_z
        replace hm_z := rn_iconst (w := 1) (am_cur_of (i := (85, 1, .iconst 1, (0, 0, 0), 0)) (by decide +kernel)) (by decide) hm_z
        replace hm_z := rn_iret (am_cur_of (i := (86, 1, .ireturn, (0, 0, 0), 0)) (by decide +kernel)) hm_z
        obtain ⟨e165_z, e166_z⟩ := hm_z
        rw [e166_z]
        exact ⟨(zM_u (o := 164) (k := 19) (by decide) (zM_u (o := 174) (k := ((6 : Int32) + cl).toNatClampNeg) (show Nat.ble 6 (((6 : Int32) + cl).toNatClampNeg) = true from Nat.ble_eq_true_of_le (by omega)) z162_z)), ⟨by rw [show rg_v (am_up (am_up h160_z 174 (((6 : Int32) + cl).toNatClampNeg) (.int (rg_v h160_z 164 11))) 164 19 (.int (cl + 1))) 164 17 = cb from (show rg_v (am_up (am_up h160_z 174 (((6 : Int32) + cl).toNatClampNeg) (.int (rg_v h160_z 164 11))) 164 19 (.int (cl + 1))) 164 17 = cb from e17_162)]; omega, by rw [show rg_v (am_up (am_up h160_z 174 (((6 : Int32) + cl).toNatClampNeg) (.int (rg_v h160_z 164 11))) 164 19 (.int (cl + 1))) 164 17 = cb from (show rg_v (am_up (am_up h160_z 174 (((6 : Int32) + cl).toNatClampNeg) (.int (rg_v h160_z 164 11))) 164 19 (.int (cl + 1))) 164 17 = cb from e17_162)]; omega⟩, ⟨by rw [show rg_v (am_up (am_up h160_z 174 (((6 : Int32) + cl).toNatClampNeg) (.int (rg_v h160_z 164 11))) 164 19 (.int (cl + 1))) 164 18 = ct from (show rg_v (am_up (am_up h160_z 174 (((6 : Int32) + cl).toNatClampNeg) (.int (rg_v h160_z 164 11))) 164 19 (.int (cl + 1))) 164 18 = ct from e18_162)]; omega, by rw [show rg_v (am_up (am_up h160_z 174 (((6 : Int32) + cl).toNatClampNeg) (.int (rg_v h160_z 164 11))) 164 19 (.int (cl + 1))) 164 18 = ct from (show rg_v (am_up (am_up h160_z 174 (((6 : Int32) + cl).toNatClampNeg) (.int (rg_v h160_z 164 11))) 164 19 (.int (cl + 1))) 164 18 = ct from e18_162)]; omega⟩, ⟨by rw [show rg_v (am_up (am_up h160_z 174 (((6 : Int32) + cl).toNatClampNeg) (.int (rg_v h160_z 164 11))) 164 19 (.int (cl + 1))) 164 19 = cl + 1 from (show rg_v (am_up (am_up h160_z 174 (((6 : Int32) + cl).toNatClampNeg) (.int (rg_v h160_z 164 11))) 164 19 (.int (cl + 1))) 164 19 = cl + 1 from rfl)]; omega, by rw [show rg_v (am_up (am_up h160_z 174 (((6 : Int32) + cl).toNatClampNeg) (.int (rg_v h160_z 164 11))) 164 19 (.int (cl + 1))) 164 19 = cl + 1 from (show rg_v (am_up (am_up h160_z 174 (((6 : Int32) + cl).toNatClampNeg) (.int (rg_v h160_z 164 11))) 164 19 (.int (cl + 1))) 164 19 = cl + 1 from rfl)]; omega⟩, ⟨by rw [show rg_v (am_up (am_up h160_z 174 (((6 : Int32) + cl).toNatClampNeg) (.int (rg_v h160_z 164 11))) 164 19 (.int (cl + 1))) 164 20 = cq from (show rg_v (am_up (am_up h160_z 174 (((6 : Int32) + cl).toNatClampNeg) (.int (rg_v h160_z 164 11))) 164 19 (.int (cl + 1))) 164 20 = cq from e20_162)]; omega, by rw [show rg_v (am_up (am_up h160_z 174 (((6 : Int32) + cl).toNatClampNeg) (.int (rg_v h160_z 164 11))) 164 19 (.int (cl + 1))) 164 20 = cq from (show rg_v (am_up (am_up h160_z 174 (((6 : Int32) + cl).toNatClampNeg) (.int (rg_v h160_z 164 11))) 164 19 (.int (cl + 1))) 164 20 = cq from e20_162)]; omega⟩⟩
      · replace b163_z : v162_z = (0 : Int32) ∧ v162_z.toInt = (0 : Int32).toInt := b163_z
        replace hm_z := rn_iconst (w := 0) (am_cur_of (i := (57, 1, .iconst 0, (0, 0, 0), 0)) (by decide +kernel)) (by decide) hm_z
        replace hm_z := rn_iret (am_cur_of (i := (58, 1, .ireturn, (0, 0, 0), 0)) (by decide +kernel)) hm_z
        obtain ⟨e167_z, e168_z⟩ := hm_z
        rw [e168_z]
        exact ⟨z162_z, ⟨by rw [show rg_v h160_z 164 17 = cb from e17_162]; omega, by rw [show rg_v h160_z 164 17 = cb from e17_162]; omega⟩, ⟨by rw [show rg_v h160_z 164 18 = ct from e18_162]; omega, by rw [show rg_v h160_z 164 18 = ct from e18_162]; omega⟩, ⟨by rw [show rg_v h160_z 164 19 = cl from e19_162]; omega, by rw [show rg_v h160_z 164 19 = cl from e19_162]; omega⟩, ⟨by rw [show rg_v h160_z 164 20 = cq from e20_162]; omega, by rw [show rg_v h160_z 164 20 = cq from e20_162]; omega⟩⟩
    · replace b157_z : v156_z = (0 : Int32) ∧ v156_z.toInt = (0 : Int32).toInt := b157_z
      replace hm_z := rn_iconst (w := 0) (am_cur_of (i := (29, 1, .iconst 0, (0, 0, 0), 0)) (by decide +kernel)) (by decide) hm_z
      replace hm_z := rn_iret (am_cur_of (i := (30, 1, .ireturn, (0, 0, 0), 0)) (by decide +kernel)) hm_z
      obtain ⟨e169_z, e170_z⟩ := hm_z
      rw [e170_z]
      exact ⟨z156_z, ⟨by rw [show rg_v h154_z 164 17 = cb from e17_156]; omega, by rw [show rg_v h154_z 164 17 = cb from e17_156]; omega⟩, ⟨by rw [show rg_v h154_z 164 18 = ct from e18_156]; omega, by rw [show rg_v h154_z 164 18 = ct from e18_156]; omega⟩, ⟨by rw [show rg_v h154_z 164 19 = cl from e19_156]; omega, by rw [show rg_v h154_z 164 19 = cl from e19_156]; omega⟩, ⟨by rw [show rg_v h154_z 164 20 = cq from e20_156]; omega, by rw [show rg_v h154_z 164 20 = cq from e20_156]; omega⟩⟩
  · replace b148_z : cl = (6 : Int32) ∧ cl.toInt = (6 : Int32).toInt := b148_z
    replace hm_z := rn_aload_n (am_cur_of (i := (9, 1, .aload_n 0, (0, 0, 0), 0)) (by decide +kernel)) g0_z hm_z
    replace hm_z := rn_iconst (w := 2) (am_cur_of (i := (10, 1, .iconst 2, (0, 0, 0), 0)) (by decide +kernel)) (by decide) hm_z
    replace hm_z := rn_callV (M' := am_m158) (o := 164) (ar := [.int 2]) (rest := []) (L := lv_args 0 [.ref 164, .int 2]) (am_cur_of (i := (11, 3, .invokevirtual 181, (158, 1665, 3), 0)) (by decide +kernel)) rfl rfl rfl rfl hm_z
    obtain ⟨r171_z, h172_z, q173_z, hm_z⟩ := hm_z
    obtain ⟨v174_z, rfl⟩ := rn_ret (M := am_m158) rfl (by decide) q173_z
    have K174 := kp_of (a := 158) (by decide) rfl (as := [.ref 164, .int 2]) (ra_Sc (fun _ e => by cases e; rfl) (ra_Sc (ra_Vi) ra_S0)) q173_z
    have z174_z := zM_t zM_r K174.1
    have e17_174 : rg_v h172_z 164 17 = cb := (K174.2 17 (by decide)).trans ecb
    have e18_174 : rg_v h172_z 164 18 = ct := (K174.2 18 (by decide)).trans ect
    have e19_174 : rg_v h172_z 164 19 = cl := (K174.2 19 (by decide)).trans ecl
    have e20_174 : rg_v h172_z 164 20 = cq := (K174.2 20 (by decide)).trans ecq
    replace hm_z : rn _ _ _ _ [.int v174_z] _ _ _ := hm_z
    replace hm_z := rn_iret (am_cur_of (i := (14, 1, .ireturn, (0, 0, 0), 0)) (by decide +kernel)) hm_z
    obtain ⟨e175_z, e176_z⟩ := hm_z
    rw [e176_z]
    exact ⟨z174_z, ⟨by rw [show rg_v h172_z 164 17 = cb from e17_174]; omega, by rw [show rg_v h172_z 164 17 = cb from e17_174]; omega⟩, ⟨by rw [show rg_v h172_z 164 18 = ct from e18_174]; omega, by rw [show rg_v h172_z 164 18 = ct from e18_174]; omega⟩, ⟨by rw [show rg_v h172_z 164 19 = cl from e19_174]; omega, by rw [show rg_v h172_z 164 19 = cl from e19_174]; omega⟩, ⟨by rw [show rg_v h172_z 164 20 = cq from e20_174]; omega, by rw [show rg_v h172_z 164 20 = cq from e20_174]; omega⟩⟩
theorem mz_trial {n : Nat} {g g' : am_H} {r : Option Value} (C : cr g) (hm_z : rn n am_m169 0 (lv_args 0 [.ref 164]) [] g r g') : zM g g' ∧ cr g' := by
  have z0_z : (0 : Int32).toInt = 0 := by decide
  have z3_z : (3 : Int32).toInt = 3 := by decide
  have z4_z : (4 : Int32).toInt = 4 := by decide
  have z6_z : (6 : Int32).toInt = 6 := by decide
  have z8_z : (8 : Int32).toInt = 8 := by decide
  have g0_z : am_get (lv_args 0 [.ref 164]) 0 = some (.ref 164) := rfl
  obtain ⟨⟨b0_z, b4_z⟩, ⟨t0_z, t8_z⟩, ⟨l0_z, l6_z⟩, ⟨q0_z, q3_z⟩⟩ := C
  obtain ⟨cb, ecb⟩ : ∃ v, rg_v g 164 17 = v := ⟨_, rfl⟩
  rw [ecb] at b0_z b4_z
  obtain ⟨ct, ect⟩ : ∃ v, rg_v g 164 18 = v := ⟨_, rfl⟩
  rw [ect] at t0_z t8_z
  obtain ⟨cl, ecl⟩ : ∃ v, rg_v g 164 19 = v := ⟨_, rfl⟩
  rw [ecl] at l0_z l6_z
  obtain ⟨cq, ecq⟩ : ∃ v, rg_v g 164 20 = v := ⟨_, rfl⟩
  rw [ecq] at q0_z q3_z
  have z9_z : (9 : Int32).toInt = 9 := by decide
  replace hm_z := rn_aload_n (am_cur_of (i := (0, 1, .aload_n 0, (0, 0, 0), 0)) (by decide +kernel)) g0_z hm_z
  replace hm_z := rn_getI (v := cq) (am_cur_of (i := (1, 3, .getfield 210, (12, 20, 1404), 0)) (by decide +kernel)) (by decide +kernel) ecq hm_z
  replace hm_z := rn_iconst (w := 3) (am_cur_of (i := (4, 1, .iconst 3, (0, 0, 0), 0)) (by decide +kernel)) (by decide) hm_z
  replace hm_z := rn_cmp (am_cur_of (i := (5, 3, .if_icmp .ne 9, (8, 0, 0), 0)) (by decide +kernel)) hm_z
  rcases hm_z with ⟨b177_z, hm_z⟩ | ⟨b177_z, hm_z⟩
  · replace b177_z : ¬ cq = (3 : Int32) ∧ ¬ cq.toInt = (3 : Int32).toInt := b177_z
    have ltcq : cq.toInt < 3 := by omega
    have ycq := rt_c1 (x := cq) (by omega) (by omega)
    have icq := ab_iadd (x := 3) (y := cq) (by omega) (by omega)
    have jcq := rt_cl (x := 3 + cq) (by omega)
    replace hm_z := rn_aload_n (am_cur_of (i := (14, 1, .aload_n 0, (0, 0, 0), 0)) (by decide +kernel)) g0_z hm_z
    replace hm_z := rn_callV (M' := am_m151) (o := 164) (ar := []) (rest := []) (L := lv_args 0 [.ref 164]) (am_cur_of (i := (15, 3, .invokevirtual 191, (151, 1636, 3), 0)) (by decide +kernel)) rfl rfl rfl rfl hm_z
    obtain ⟨r178_z, h179_z, q180_z, hm_z⟩ := hm_z
    have vo := rn_void rfl q180_z
    subst vo
    have K181 := kp_of (a := 151) (by decide) rfl (as := [.ref 164]) (ra_Sc (fun _ e => by cases e; rfl) ra_S0) q180_z
    have z181_z := zM_t zM_r K181.1
    have e17_181 : rg_v h179_z 164 17 = cb := (K181.2 17 (by decide)).trans ecb
    have e18_181 : rg_v h179_z 164 18 = ct := (K181.2 18 (by decide)).trans ect
    have e19_181 : rg_v h179_z 164 19 = cl := (K181.2 19 (by decide)).trans ecl
    have e20_181 : rg_v h179_z 164 20 = cq := (K181.2 20 (by decide)).trans ecq
    replace hm_z : rn _ _ _ _ [] _ _ _ := hm_z
    replace hm_z := rn_aload_n (am_cur_of (i := (18, 1, .aload_n 0, (0, 0, 0), 0)) (by decide +kernel)) g0_z hm_z
    replace hm_z := rn_aload_n (am_cur_of (i := (19, 1, .aload_n 0, (0, 0, 0), 0)) (by decide +kernel)) g0_z hm_z
    replace hm_z := rn_getR (x := 175) (am_cur_of (i := (20, 3, .getfield 45, (12, 30, 1414), 0)) (by decide +kernel)) (by decide +kernel) hm_z
    replace hm_z := rn_iconst (w := 3) (am_cur_of (i := (23, 1, .iconst 3, (0, 0, 0), 0)) (by decide +kernel)) (by decide) hm_z
    replace hm_z := rn_aload_n (am_cur_of (i := (24, 1, .aload_n 0, (0, 0, 0), 0)) (by decide +kernel)) g0_z hm_z
    replace hm_z := rn_getI (v := cq) (am_cur_of (i := (25, 3, .getfield 210, (12, 20, 1404), 0)) (by decide +kernel)) (by decide +kernel) e20_181 hm_z
    replace hm_z := rn_callV (M' := am_m164) (o := 164) (ar := [.int cq, .int 3, .ref 175]) (rest := []) (L := lv_args 0 [.ref 164, .ref 175, .int 3, .int cq]) (am_cur_of (i := (28, 3, .invokevirtual 248, (164, 1688, 3), 0)) (by decide +kernel)) rfl rfl rfl rfl hm_z
    obtain ⟨r182_z, h183_z, q184_z, hm_z⟩ := hm_z
    obtain ⟨v185_z, rfl⟩ := rn_ret (M := am_m164) rfl (by decide) q184_z
    obtain ⟨aK185, bK185, cK185, dK185, fK185⟩ := mz_newT (by omega) (by omega) q184_z
    have K185 : zM _ _ ∧ ∀ k, (k = 17 ∨ k = 18 ∨ k = 19 ∨ k = 20) → rg_v _ 164 k = rg_v _ 164 k := ⟨aK185, fun k hk_z => by rcases hk_z with rfl | rfl | rfl | rfl <;> assumption⟩
    have z185_z := zM_t z181_z K185.1
    have e17_185 : rg_v h183_z 164 17 = cb := (K185.2 17 (by decide)).trans e17_181
    have e18_185 : rg_v h183_z 164 18 = ct := (K185.2 18 (by decide)).trans e18_181
    have e19_185 : rg_v h183_z 164 19 = cl := (K185.2 19 (by decide)).trans e19_181
    have e20_185 : rg_v h183_z 164 20 = cq := (K185.2 20 (by decide)).trans e20_181
    replace hm_z : rn _ _ _ _ [.int v185_z] _ _ _ := hm_z
    replace hm_z := rn_if (am_cur_of (i := (31, 3, .ifCond .eq 13, (23, 0, 0), 0)) (by decide +kernel)) hm_z
    rcases hm_z with ⟨b186_z, hm_z⟩ | ⟨b186_z, hm_z⟩
    · replace b186_z : v185_z = (0 : Int32) ∧ v185_z.toInt = (0 : Int32).toInt := b186_z
      replace hm_z := rn_iconst (w := 0) (am_cur_of (i := (44, 1, .iconst 0, (0, 0, 0), 0)) (by decide +kernel)) (by decide) hm_z
      replace hm_z := rn_iret (am_cur_of (i := (45, 1, .ireturn, (0, 0, 0), 0)) (by decide +kernel)) hm_z
      obtain ⟨e187_z, e188_z⟩ := hm_z
      rw [e188_z]
      exact ⟨z185_z, ⟨by rw [show rg_v h183_z 164 17 = cb from e17_185]; omega, by rw [show rg_v h183_z 164 17 = cb from e17_185]; omega⟩, ⟨by rw [show rg_v h183_z 164 18 = ct from e18_185]; omega, by rw [show rg_v h183_z 164 18 = ct from e18_185]; omega⟩, ⟨by rw [show rg_v h183_z 164 19 = cl from e19_185]; omega, by rw [show rg_v h183_z 164 19 = cl from e19_185]; omega⟩, ⟨by rw [show rg_v h183_z 164 20 = cq from e20_185]; omega, by rw [show rg_v h183_z 164 20 = cq from e20_185]; omega⟩⟩
    · replace b186_z : ¬ v185_z = (0 : Int32) ∧ ¬ v185_z.toInt = (0 : Int32).toInt := b186_z
      replace hm_z := rn_aload_n (am_cur_of (i := (34, 1, .aload_n 0, (0, 0, 0), 0)) (by decide +kernel)) g0_z hm_z
      replace hm_z := rn_iconst (w := 1) (am_cur_of (i := (35, 1, .iconst 1, (0, 0, 0), 0)) (by decide +kernel)) (by decide) hm_z
      replace hm_z := rn_bipush (w := 100) (am_cur_of (i := (36, 2, .bipush 100, (0, 0, 0), 0)) (by decide +kernel)) (by decide) hm_z
      replace hm_z := rn_callV (M' := am_m161) (o := 164) (ar := [.int 100, .int 1]) (rest := []) (L := lv_args 0 [.ref 164, .int 1, .int 100]) (am_cur_of (i := (38, 3, .invokevirtual 197, (161, 1677, 3), 0)) (by decide +kernel)) rfl rfl rfl rfl hm_z
      obtain ⟨r189_z, h190_z, q191_z, hm_z⟩ := hm_z
      obtain ⟨v192_z, rfl⟩ := rn_ret (M := am_m161) rfl (by decide) q191_z
      have K192 := kp_of (a := 161) (by decide) rfl (as := [.ref 164, .int 1, .int 100]) (ra_Sc (fun _ e => by cases e; rfl) (ra_Sc (ra_Vi) (ra_Sc (ra_Vi) ra_S0))) q191_z
      have z192_z := zM_t z185_z K192.1
      have e17_192 : rg_v h190_z 164 17 = cb := (K192.2 17 (by decide)).trans e17_185
      have e18_192 : rg_v h190_z 164 18 = ct := (K192.2 18 (by decide)).trans e18_185
      have e19_192 : rg_v h190_z 164 19 = cl := (K192.2 19 (by decide)).trans e19_185
      have e20_192 : rg_v h190_z 164 20 = cq := (K192.2 20 (by decide)).trans e20_185
      replace hm_z : rn _ _ _ _ [.int v192_z] _ _ _ := hm_z
      replace hm_z := rn_if (am_cur_of (i := (41, 3, .ifCond .ne 5, (25, 0, 0), 0)) (by decide +kernel)) hm_z
      rcases hm_z with ⟨b193_z, hm_z⟩ | ⟨b193_z, hm_z⟩
      · replace b193_z : ¬ v192_z = (0 : Int32) ∧ ¬ v192_z.toInt = (0 : Int32).toInt := b193_z
        replace hm_z := rn_aload_n (am_cur_of (i := (46, 1, .aload_n 0, (0, 0, 0), 0)) (by decide +kernel)) g0_z hm_z
        replace hm_z := rn_getR (x := 176) (am_cur_of (i := (47, 3, .getfield 48, (12, 31, 1415), 0)) (by decide +kernel)) (by decide +kernel) hm_z
        replace hm_z := rn_iconst (w := 3) (am_cur_of (i := (50, 1, .iconst 3, (0, 0, 0), 0)) (by decide +kernel)) (by decide) hm_z
        replace hm_z := rn_aload_n (am_cur_of (i := (51, 1, .aload_n 0, (0, 0, 0), 0)) (by decide +kernel)) g0_z hm_z
        replace hm_z := rn_getI (v := cq) (am_cur_of (i := (52, 3, .getfield 210, (12, 20, 1404), 0)) (by decide +kernel)) (by decide +kernel) e20_192 hm_z
        replace hm_z := rn_iadd (w := (3 : Int32) + cq) (am_cur_of (i := (55, 1, .iadd, (0, 0, 0), 0)) (by decide +kernel)) rfl hm_z
        replace hm_z := rn_aload_n (am_cur_of (i := (56, 1, .aload_n 0, (0, 0, 0), 0)) (by decide +kernel)) g0_z hm_z
        replace hm_z := rn_getI (v := rg_v h190_z 164 11) (am_cur_of (i := (57, 3, .getfield 188, (12, 11, 1395), 0)) (by decide +kernel)) (by decide +kernel) rfl hm_z
        replace hm_z := rn_iastore (N := 6) (q := ((3 : Int32) + cq).toNatClampNeg) (am_cur_of (i := (60, 1, .iastore, (0, 0, 0), 0)) (by decide +kernel)) (by decide +kernel) rfl hm_z
        obtain ⟨p194_z, hm_z⟩ := hm_z
        replace hm_z := rn_aload_n (am_cur_of (i := (61, 1, .aload_n 0, (0, 0, 0), 0)) (by decide +kernel)) g0_z hm_z
        replace hm_z := rn_iconst (w := 1) (am_cur_of (i := (62, 1, .iconst 1, (0, 0, 0), 0)) (by decide +kernel)) (by decide) hm_z
        replace hm_z := rn_bipush (w := 99) (am_cur_of (i := (63, 2, .bipush 99, (0, 0, 0), 0)) (by decide +kernel)) (by decide) hm_z
        replace hm_z := rn_callV (M' := am_m161) (o := 164) (ar := [.int 99, .int 1]) (rest := []) (L := lv_args 0 [.ref 164, .int 1, .int 99]) (am_cur_of (i := (65, 3, .invokevirtual 197, (161, 1677, 3), 0)) (by decide +kernel)) rfl rfl rfl rfl hm_z
        obtain ⟨r195_z, h196_z, q197_z, hm_z⟩ := hm_z
        obtain ⟨v198_z, rfl⟩ := rn_ret (M := am_m161) rfl (by decide) q197_z
        have K198 := kp_of (a := 161) (by decide) rfl (as := [.ref 164, .int 1, .int 99]) (ra_Sc (fun _ e => by cases e; rfl) (ra_Sc (ra_Vi) (ra_Sc (ra_Vi) ra_S0))) q197_z
        have z198_z := zM_t (zM_u (o := 176) (k := ((3 : Int32) + cq).toNatClampNeg) (show Nat.ble 3 (((3 : Int32) + cq).toNatClampNeg) = true from Nat.ble_eq_true_of_le (by omega)) z192_z) K198.1
        have e17_198 : rg_v h196_z 164 17 = cb := (K198.2 17 (by decide)).trans (show rg_v (am_up h190_z 176 (((3 : Int32) + cq).toNatClampNeg) (.int (rg_v h190_z 164 11))) 164 17 = cb from e17_192)
        have e18_198 : rg_v h196_z 164 18 = ct := (K198.2 18 (by decide)).trans (show rg_v (am_up h190_z 176 (((3 : Int32) + cq).toNatClampNeg) (.int (rg_v h190_z 164 11))) 164 18 = ct from e18_192)
        have e19_198 : rg_v h196_z 164 19 = cl := (K198.2 19 (by decide)).trans (show rg_v (am_up h190_z 176 (((3 : Int32) + cq).toNatClampNeg) (.int (rg_v h190_z 164 11))) 164 19 = cl from e19_192)
        have e20_198 : rg_v h196_z 164 20 = cq := (K198.2 20 (by decide)).trans (show rg_v (am_up h190_z 176 (((3 : Int32) + cq).toNatClampNeg) (.int (rg_v h190_z 164 11))) 164 20 = cq from e20_192)
        replace hm_z : rn _ _ _ _ [.int v198_z] _ _ _ := hm_z
        replace hm_z := rn_if (am_cur_of (i := (68, 3, .ifCond .ne 5, (41, 0, 0), 0)) (by decide +kernel)) hm_z
        rcases hm_z with ⟨b199_z, hm_z⟩ | ⟨b199_z, hm_z⟩
        · replace b199_z : ¬ v198_z = (0 : Int32) ∧ ¬ v198_z.toInt = (0 : Int32).toInt := b199_z
          replace hm_z := rn_aload_n (am_cur_of (i := (73, 1, .aload_n 0, (0, 0, 0), 0)) (by decide +kernel)) g0_z hm_z
          replace hm_z := rn_getR (x := 177) (am_cur_of (i := (74, 3, .getfield 51, (12, 32, 1416), 0)) (by decide +kernel)) (by decide +kernel) hm_z
          replace hm_z := rn_iconst (w := 3) (am_cur_of (i := (77, 1, .iconst 3, (0, 0, 0), 0)) (by decide +kernel)) (by decide) hm_z
          replace hm_z := rn_aload_n (am_cur_of (i := (78, 1, .aload_n 0, (0, 0, 0), 0)) (by decide +kernel)) g0_z hm_z
          replace hm_z := rn_getI (v := cq) (am_cur_of (i := (79, 3, .getfield 210, (12, 20, 1404), 0)) (by decide +kernel)) (by decide +kernel) e20_198 hm_z
          replace hm_z := rn_iadd (w := (3 : Int32) + cq) (am_cur_of (i := (82, 1, .iadd, (0, 0, 0), 0)) (by decide +kernel)) rfl hm_z
          replace hm_z := rn_aload_n (am_cur_of (i := (83, 1, .aload_n 0, (0, 0, 0), 0)) (by decide +kernel)) g0_z hm_z
          replace hm_z := rn_getI (v := rg_v h196_z 164 11) (am_cur_of (i := (84, 3, .getfield 188, (12, 11, 1395), 0)) (by decide +kernel)) (by decide +kernel) rfl hm_z
          replace hm_z := rn_iastore (N := 6) (q := ((3 : Int32) + cq).toNatClampNeg) (am_cur_of (i := (87, 1, .iastore, (0, 0, 0), 0)) (by decide +kernel)) (by decide +kernel) rfl hm_z
          obtain ⟨p200_z, hm_z⟩ := hm_z
          replace hm_z := rn_aload_n (am_cur_of (i := (88, 1, .aload_n 0, (0, 0, 0), 0)) (by decide +kernel)) g0_z hm_z
          replace hm_z := rn_dup (am_cur_of (i := (89, 1, .dup, (0, 0, 0), 0)) (by decide +kernel)) hm_z
          replace hm_z := rn_getI (v := cq) (am_cur_of (i := (90, 3, .getfield 210, (12, 20, 1404), 0)) (by decide +kernel)) (by decide +kernel) (show rg_v (am_up h196_z 177 (((3 : Int32) + cq).toNatClampNeg) (.int (rg_v h196_z 164 11))) 164 20 = cq from e20_198) hm_z
          replace hm_z := rn_iconst (w := 1) (am_cur_of (i := (93, 1, .iconst 1, (0, 0, 0), 0)) (by decide +kernel)) (by decide) hm_z
          replace hm_z := rn_iadd (w := cq + 1) (am_cur_of (i := (94, 1, .iadd, (0, 0, 0), 0)) (by decide +kernel)) rfl hm_z
          replace hm_z := rn_put (am_cur_of (i := (95, 3, .putfield 210, (12, 20, 1404), 0)) (by decide +kernel)) (by decide +kernel) hm_z
          replace hm_z := rn_iconst (w := 1) (am_cur_of (i := (98, 1, .iconst 1, (0, 0, 0), 0)) (by decide +kernel)) (by decide) hm_z
          replace hm_z := rn_iret (am_cur_of (i := (99, 1, .ireturn, (0, 0, 0), 0)) (by decide +kernel)) hm_z
          obtain ⟨e201_z, e202_z⟩ := hm_z
          rw [e202_z]
          exact ⟨(zM_u (o := 164) (k := 20) (by decide) (zM_u (o := 177) (k := ((3 : Int32) + cq).toNatClampNeg) (show Nat.ble 3 (((3 : Int32) + cq).toNatClampNeg) = true from Nat.ble_eq_true_of_le (by omega)) z198_z)), ⟨by rw [show rg_v (am_up (am_up h196_z 177 (((3 : Int32) + cq).toNatClampNeg) (.int (rg_v h196_z 164 11))) 164 20 (.int (cq + 1))) 164 17 = cb from (show rg_v (am_up (am_up h196_z 177 (((3 : Int32) + cq).toNatClampNeg) (.int (rg_v h196_z 164 11))) 164 20 (.int (cq + 1))) 164 17 = cb from e17_198)]; omega, by rw [show rg_v (am_up (am_up h196_z 177 (((3 : Int32) + cq).toNatClampNeg) (.int (rg_v h196_z 164 11))) 164 20 (.int (cq + 1))) 164 17 = cb from (show rg_v (am_up (am_up h196_z 177 (((3 : Int32) + cq).toNatClampNeg) (.int (rg_v h196_z 164 11))) 164 20 (.int (cq + 1))) 164 17 = cb from e17_198)]; omega⟩, ⟨by rw [show rg_v (am_up (am_up h196_z 177 (((3 : Int32) + cq).toNatClampNeg) (.int (rg_v h196_z 164 11))) 164 20 (.int (cq + 1))) 164 18 = ct from (show rg_v (am_up (am_up h196_z 177 (((3 : Int32) + cq).toNatClampNeg) (.int (rg_v h196_z 164 11))) 164 20 (.int (cq + 1))) 164 18 = ct from e18_198)]; omega, by rw [show rg_v (am_up (am_up h196_z 177 (((3 : Int32) + cq).toNatClampNeg) (.int (rg_v h196_z 164 11))) 164 20 (.int (cq + 1))) 164 18 = ct from (show rg_v (am_up (am_up h196_z 177 (((3 : Int32) + cq).toNatClampNeg) (.int (rg_v h196_z 164 11))) 164 20 (.int (cq + 1))) 164 18 = ct from e18_198)]; omega⟩, ⟨by rw [show rg_v (am_up (am_up h196_z 177 (((3 : Int32) + cq).toNatClampNeg) (.int (rg_v h196_z 164 11))) 164 20 (.int (cq + 1))) 164 19 = cl from (show rg_v (am_up (am_up h196_z 177 (((3 : Int32) + cq).toNatClampNeg) (.int (rg_v h196_z 164 11))) 164 20 (.int (cq + 1))) 164 19 = cl from e19_198)]; omega, by rw [show rg_v (am_up (am_up h196_z 177 (((3 : Int32) + cq).toNatClampNeg) (.int (rg_v h196_z 164 11))) 164 20 (.int (cq + 1))) 164 19 = cl from (show rg_v (am_up (am_up h196_z 177 (((3 : Int32) + cq).toNatClampNeg) (.int (rg_v h196_z 164 11))) 164 20 (.int (cq + 1))) 164 19 = cl from e19_198)]; omega⟩, ⟨by rw [show rg_v (am_up (am_up h196_z 177 (((3 : Int32) + cq).toNatClampNeg) (.int (rg_v h196_z 164 11))) 164 20 (.int (cq + 1))) 164 20 = cq + 1 from (show rg_v (am_up (am_up h196_z 177 (((3 : Int32) + cq).toNatClampNeg) (.int (rg_v h196_z 164 11))) 164 20 (.int (cq + 1))) 164 20 = cq + 1 from rfl)]; omega, by rw [show rg_v (am_up (am_up h196_z 177 (((3 : Int32) + cq).toNatClampNeg) (.int (rg_v h196_z 164 11))) 164 20 (.int (cq + 1))) 164 20 = cq + 1 from (show rg_v (am_up (am_up h196_z 177 (((3 : Int32) + cq).toNatClampNeg) (.int (rg_v h196_z 164 11))) 164 20 (.int (cq + 1))) 164 20 = cq + 1 from rfl)]; omega⟩⟩
        · replace b199_z : v198_z = (0 : Int32) ∧ v198_z.toInt = (0 : Int32).toInt := b199_z
          replace hm_z := rn_iconst (w := 0) (am_cur_of (i := (71, 1, .iconst 0, (0, 0, 0), 0)) (by decide +kernel)) (by decide) hm_z
          replace hm_z := rn_iret (am_cur_of (i := (72, 1, .ireturn, (0, 0, 0), 0)) (by decide +kernel)) hm_z
          obtain ⟨e203_z, e204_z⟩ := hm_z
          rw [e204_z]
          exact ⟨z198_z, ⟨by rw [show rg_v h196_z 164 17 = cb from e17_198]; omega, by rw [show rg_v h196_z 164 17 = cb from e17_198]; omega⟩, ⟨by rw [show rg_v h196_z 164 18 = ct from e18_198]; omega, by rw [show rg_v h196_z 164 18 = ct from e18_198]; omega⟩, ⟨by rw [show rg_v h196_z 164 19 = cl from e19_198]; omega, by rw [show rg_v h196_z 164 19 = cl from e19_198]; omega⟩, ⟨by rw [show rg_v h196_z 164 20 = cq from e20_198]; omega, by rw [show rg_v h196_z 164 20 = cq from e20_198]; omega⟩⟩
      · replace b193_z : v192_z = (0 : Int32) ∧ v192_z.toInt = (0 : Int32).toInt := b193_z
        replace hm_z := rn_iconst (w := 0) (am_cur_of (i := (44, 1, .iconst 0, (0, 0, 0), 0)) (by decide +kernel)) (by decide) hm_z
        replace hm_z := rn_iret (am_cur_of (i := (45, 1, .ireturn, (0, 0, 0), 0)) (by decide +kernel)) hm_z
        obtain ⟨e205_z, e206_z⟩ := hm_z
        rw [e206_z]
        exact ⟨z192_z, ⟨by rw [show rg_v h190_z 164 17 = cb from e17_192]; omega, by rw [show rg_v h190_z 164 17 = cb from e17_192]; omega⟩, ⟨by rw [show rg_v h190_z 164 18 = ct from e18_192]; omega, by rw [show rg_v h190_z 164 18 = ct from e18_192]; omega⟩, ⟨by rw [show rg_v h190_z 164 19 = cl from e19_192]; omega, by rw [show rg_v h190_z 164 19 = cl from e19_192]; omega⟩, ⟨by rw [show rg_v h190_z 164 20 = cq from e20_192]; omega, by rw [show rg_v h190_z 164 20 = cq from e20_192]; omega⟩⟩
  · replace b177_z : cq = (3 : Int32) ∧ cq.toInt = (3 : Int32).toInt := b177_z
    replace hm_z := rn_aload_n (am_cur_of (i := (8, 1, .aload_n 0, (0, 0, 0), 0)) (by decide +kernel)) g0_z hm_z
    replace hm_z := rn_iconst (w := 2) (am_cur_of (i := (9, 1, .iconst 2, (0, 0, 0), 0)) (by decide +kernel)) (by decide) hm_z
    replace hm_z := rn_callV (M' := am_m158) (o := 164) (ar := [.int 2]) (rest := []) (L := lv_args 0 [.ref 164, .int 2]) (am_cur_of (i := (10, 3, .invokevirtual 181, (158, 1665, 3), 0)) (by decide +kernel)) rfl rfl rfl rfl hm_z
    obtain ⟨r207_z, h208_z, q209_z, hm_z⟩ := hm_z
    obtain ⟨v210_z, rfl⟩ := rn_ret (M := am_m158) rfl (by decide) q209_z
    have K210 := kp_of (a := 158) (by decide) rfl (as := [.ref 164, .int 2]) (ra_Sc (fun _ e => by cases e; rfl) (ra_Sc (ra_Vi) ra_S0)) q209_z
    have z210_z := zM_t zM_r K210.1
    have e17_210 : rg_v h208_z 164 17 = cb := (K210.2 17 (by decide)).trans ecb
    have e18_210 : rg_v h208_z 164 18 = ct := (K210.2 18 (by decide)).trans ect
    have e19_210 : rg_v h208_z 164 19 = cl := (K210.2 19 (by decide)).trans ecl
    have e20_210 : rg_v h208_z 164 20 = cq := (K210.2 20 (by decide)).trans ecq
    replace hm_z : rn _ _ _ _ [.int v210_z] _ _ _ := hm_z
    replace hm_z := rn_iret (am_cur_of (i := (13, 1, .ireturn, (0, 0, 0), 0)) (by decide +kernel)) hm_z
    obtain ⟨e211_z, e212_z⟩ := hm_z
    rw [e212_z]
    exact ⟨z210_z, ⟨by rw [show rg_v h208_z 164 17 = cb from e17_210]; omega, by rw [show rg_v h208_z 164 17 = cb from e17_210]; omega⟩, ⟨by rw [show rg_v h208_z 164 18 = ct from e18_210]; omega, by rw [show rg_v h208_z 164 18 = ct from e18_210]; omega⟩, ⟨by rw [show rg_v h208_z 164 19 = cl from e19_210]; omega, by rw [show rg_v h208_z 164 19 = cl from e19_210]; omega⟩, ⟨by rw [show rg_v h208_z 164 20 = cq from e20_210]; omega, by rw [show rg_v h208_z 164 20 = cq from e20_210]; omega⟩⟩
theorem mz_blower {n : Nat} {g g' : am_H} {r : Option Value} (C : cr g) (hm_z : rn n am_m163 0 (lv_args 0 [.ref 164]) [] g r g') : zM g g' ∧ cr g' := by
  have z0_z : (0 : Int32).toInt = 0 := by decide
  have z1_z : (1 : Int32).toInt = 1 := by decide
  have z2_z : (2 : Int32).toInt = 2 := by decide
  have z3_z : (3 : Int32).toInt = 3 := by decide
  have z4_z : (4 : Int32).toInt = 4 := by decide
  have z6_z : (6 : Int32).toInt = 6 := by decide
  have z8_z : (8 : Int32).toInt = 8 := by decide
  have g0_z : am_get (lv_args 0 [.ref 164]) 0 = some (.ref 164) := rfl
  obtain ⟨⟨b0_z, b4_z⟩, ⟨t0_z, t8_z⟩, ⟨l0_z, l6_z⟩, ⟨q0_z, q3_z⟩⟩ := C
  obtain ⟨cb, ecb⟩ : ∃ v, rg_v g 164 17 = v := ⟨_, rfl⟩
  rw [ecb] at b0_z b4_z
  obtain ⟨ct, ect⟩ : ∃ v, rg_v g 164 18 = v := ⟨_, rfl⟩
  rw [ect] at t0_z t8_z
  obtain ⟨cl, ecl⟩ : ∃ v, rg_v g 164 19 = v := ⟨_, rfl⟩
  rw [ecl] at l0_z l6_z
  obtain ⟨cq, ecq⟩ : ∃ v, rg_v g 164 20 = v := ⟨_, rfl⟩
  rw [ecq] at q0_z q3_z
  have z9_z : (9 : Int32).toInt = 9 := by decide
  have hb5_z : cb = 0 ∨ cb = 1 ∨ cb = 2 ∨ cb = 3 ∨ cb = 4 := by
    have h5_z : cb.toInt = 0 ∨ cb.toInt = 1 ∨ cb.toInt = 2 ∨ cb.toInt = 3 ∨ cb.toInt = 4 := by omega
    rcases h5_z with h | h | h | h | h
    · exact Or.inl (Int32.toInt_inj.mp (h.trans (by decide)))
    · exact Or.inr (Or.inl (Int32.toInt_inj.mp (h.trans (by decide))))
    · exact Or.inr (Or.inr (Or.inl (Int32.toInt_inj.mp (h.trans (by decide)))))
    · exact Or.inr (Or.inr (Or.inr (Or.inl (Int32.toInt_inj.mp (h.trans (by decide))))))
    · exact Or.inr (Or.inr (Or.inr (Or.inr ((Int32.toInt_inj.mp (h.trans (by decide)))))))
  rcases hb5_z with rfl | rfl | rfl | rfl | rfl
  · replace hm_z := rn_aload_n (am_cur_of (i := (0, 1, .aload_n 0, (0, 0, 0), 0)) (by decide +kernel)) g0_z hm_z
    replace hm_z := rn_getI (v := 0) (am_cur_of (i := (1, 3, .getfield 201, (12, 17, 1401), 0)) (by decide +kernel)) (by decide +kernel) ecb hm_z
    replace hm_z := rn_iconst (w := 4) (am_cur_of (i := (4, 1, .iconst 4, (0, 0, 0), 0)) (by decide +kernel)) (by decide) hm_z
    replace hm_z := rn_cmpT (am_cur_of (i := (5, 3, .if_icmp .ne 9, (8, 0, 0), 0)) (by decide +kernel)) (by decide) hm_z
    replace hm_z := rn_aload_n (am_cur_of (i := (14, 1, .aload_n 0, (0, 0, 0), 0)) (by decide +kernel)) g0_z hm_z
    replace hm_z := rn_callV (M' := am_m151) (o := 164) (ar := []) (rest := []) (L := lv_args 0 [.ref 164]) (am_cur_of (i := (15, 3, .invokevirtual 191, (151, 1636, 3), 0)) (by decide +kernel)) rfl rfl rfl rfl hm_z
    obtain ⟨r213_z, h214_z, q215_z, hm_z⟩ := hm_z
    have vo := rn_void rfl q215_z
    subst vo
    have K216 := kp_of (a := 151) (by decide) rfl (as := [.ref 164]) (ra_Sc (fun _ e => by cases e; rfl) ra_S0) q215_z
    have z216_z := zM_t zM_r K216.1
    have e17_216 : rg_v h214_z 164 17 = 0 := (K216.2 17 (by decide)).trans ecb
    have e18_216 : rg_v h214_z 164 18 = ct := (K216.2 18 (by decide)).trans ect
    have e19_216 : rg_v h214_z 164 19 = cl := (K216.2 19 (by decide)).trans ecl
    have e20_216 : rg_v h214_z 164 20 = cq := (K216.2 20 (by decide)).trans ecq
    replace hm_z : rn _ _ _ _ [] _ _ _ := hm_z
    replace hm_z := rn_aload_n (am_cur_of (i := (18, 1, .aload_n 0, (0, 0, 0), 0)) (by decide +kernel)) g0_z hm_z
    replace hm_z := rn_aload_n (am_cur_of (i := (19, 1, .aload_n 0, (0, 0, 0), 0)) (by decide +kernel)) g0_z hm_z
    replace hm_z := rn_getR (x := 169) (am_cur_of (i := (20, 3, .getfield 27, (12, 24, 1408), 0)) (by decide +kernel)) (by decide +kernel) hm_z
    replace hm_z := rn_iconst (w := 4) (am_cur_of (i := (23, 1, .iconst 4, (0, 0, 0), 0)) (by decide +kernel)) (by decide) hm_z
    replace hm_z := rn_aload_n (am_cur_of (i := (24, 1, .aload_n 0, (0, 0, 0), 0)) (by decide +kernel)) g0_z hm_z
    replace hm_z := rn_getI (v := 0) (am_cur_of (i := (25, 3, .getfield 201, (12, 17, 1401), 0)) (by decide +kernel)) (by decide +kernel) e17_216 hm_z
    replace hm_z := rn_callV (M' := am_m164) (o := 164) (ar := [.int 0, .int 4, .ref 169]) (rest := []) (L := lv_args 0 [.ref 164, .ref 169, .int 4, .int 0]) (am_cur_of (i := (28, 3, .invokevirtual 248, (164, 1688, 3), 0)) (by decide +kernel)) rfl rfl rfl rfl hm_z
    obtain ⟨r217_z, h218_z, q219_z, hm_z⟩ := hm_z
    obtain ⟨v220_z, rfl⟩ := rn_ret (M := am_m164) rfl (by decide) q219_z
    obtain ⟨aK220, bK220, cK220, dK220, fK220⟩ := mz_newB (by omega) (by omega) q219_z
    have K220 : zM _ _ ∧ ∀ k, (k = 17 ∨ k = 18 ∨ k = 19 ∨ k = 20) → rg_v _ 164 k = rg_v _ 164 k := ⟨aK220, fun k hk_z => by rcases hk_z with rfl | rfl | rfl | rfl <;> assumption⟩
    have z220_z := zM_t z216_z K220.1
    have e17_220 : rg_v h218_z 164 17 = 0 := (K220.2 17 (by decide)).trans e17_216
    have e18_220 : rg_v h218_z 164 18 = ct := (K220.2 18 (by decide)).trans e18_216
    have e19_220 : rg_v h218_z 164 19 = cl := (K220.2 19 (by decide)).trans e19_216
    have e20_220 : rg_v h218_z 164 20 = cq := (K220.2 20 (by decide)).trans e20_216
    replace hm_z : rn _ _ _ _ [.int v220_z] _ _ _ := hm_z
    replace hm_z := rn_if (am_cur_of (i := (31, 3, .ifCond .ne 5, (20, 0, 0), 0)) (by decide +kernel)) hm_z
    rcases hm_z with ⟨b221_z, hm_z⟩ | ⟨b221_z, hm_z⟩
    · replace b221_z : ¬ v220_z = (0 : Int32) ∧ ¬ v220_z.toInt = (0 : Int32).toInt := b221_z
      replace hm_z := rn_bipush (w := 28) (am_cur_of (i := (36, 2, .bipush 28, (0, 0, 0), 0)) (by decide +kernel)) (by decide) hm_z
      replace hm_z := rn_bipush (w := 7) (am_cur_of (i := (38, 2, .bipush 7, (0, 0, 0), 0)) (by decide +kernel)) (by decide) hm_z
      replace hm_z := rn_aload_n (am_cur_of (i := (40, 1, .aload_n 0, (0, 0, 0), 0)) (by decide +kernel)) g0_z hm_z
      replace hm_z := rn_getI (v := 0) (am_cur_of (i := (41, 3, .getfield 201, (12, 17, 1401), 0)) (by decide +kernel)) (by decide +kernel) e17_220 hm_z
      replace hm_z := rn_imul (w := 0) (am_cur_of (i := (44, 1, .imul, (0, 0, 0), 0)) (by decide +kernel)) (by decide) hm_z
      replace hm_z := rn_iadd (w := 28) (am_cur_of (i := (45, 1, .iadd, (0, 0, 0), 0)) (by decide +kernel)) (by decide) hm_z
      replace hm_z := rn_istore_n (am_cur_of (i := (46, 1, .istore_n 1, (0, 0, 0), 0)) (by decide +kernel)) hm_z
      obtain ⟨_, s222_z, s223_z, g1_z, hm_z⟩ := hm_z
      replace g0_z := s222_z 0 _ (by decide) rfl g0_z
      clear s222_z s223_z
      replace hm_z := rn_iconst (w := 0) (am_cur_of (i := (47, 1, .iconst 0, (0, 0, 0), 0)) (by decide +kernel)) (by decide) hm_z
      replace hm_z := rn_istore_n (am_cur_of (i := (48, 1, .istore_n 2, (0, 0, 0), 0)) (by decide +kernel)) hm_z
      obtain ⟨_, s224_z, s225_z, g2_z, hm_z⟩ := hm_z
      replace g0_z := s224_z 0 _ (by decide) rfl g0_z
      replace g1_z := s224_z 1 _ (by decide) rfl g1_z
      clear s224_z s225_z
      replace hm_z := rn_iload_n (am_cur_of (i := (49, 1, .iload_n 2, (0, 0, 0), 0)) (by decide +kernel)) g2_z hm_z
      replace hm_z := rn_bipush (w := 7) (am_cur_of (i := (50, 2, .bipush 7, (0, 0, 0), 0)) (by decide +kernel)) (by decide) hm_z
      replace hm_z := rn_cmpF (am_cur_of (i := (52, 3, .if_icmp .ge 87, (79, 0, 0), 0)) (by decide +kernel)) (by decide) hm_z
      replace hm_z := rn_iload_n (am_cur_of (i := (55, 1, .iload_n 2, (0, 0, 0), 0)) (by decide +kernel)) g2_z hm_z
      replace hm_z := rn_ifT (am_cur_of (i := (56, 3, .ifCond .eq 13, (40, 0, 0), 0)) (by decide +kernel)) (by decide) hm_z
      replace hm_z := rn_iconst (w := 1) (am_cur_of (i := (69, 1, .iconst 1, (0, 0, 0), 0)) (by decide +kernel)) (by decide) hm_z
      replace hm_z := rn_goto (am_cur_of (i := (70, 3, .goto 4, (43, 0, 0), 0)) (by decide +kernel)) hm_z
      replace hm_z := rn_istore_n (am_cur_of (i := (74, 1, .istore_n 3, (0, 0, 0), 0)) (by decide +kernel)) hm_z
      obtain ⟨_, s226_z, s227_z, g3_z, hm_z⟩ := hm_z
      replace g0_z := s226_z 0 _ (by decide) rfl g0_z
      replace g1_z := s226_z 1 _ (by decide) rfl g1_z
      replace g2_z := s226_z 2 _ (by decide) rfl g2_z
      clear s226_z s227_z
      replace hm_z := rn_iload_n (am_cur_of (i := (75, 1, .iload_n 2, (0, 0, 0), 0)) (by decide +kernel)) g2_z hm_z
      replace hm_z := rn_iconst (w := 1) (am_cur_of (i := (76, 1, .iconst 1, (0, 0, 0), 0)) (by decide +kernel)) (by decide) hm_z
      replace hm_z := rn_cmpF (am_cur_of (i := (77, 3, .if_icmp .eq 8, (50, 0, 0), 0)) (by decide +kernel)) (by decide) hm_z
      replace hm_z := rn_iload_n (am_cur_of (i := (80, 1, .iload_n 2, (0, 0, 0), 0)) (by decide +kernel)) g2_z hm_z
      replace hm_z := rn_iconst (w := 2) (am_cur_of (i := (81, 1, .iconst 2, (0, 0, 0), 0)) (by decide +kernel)) (by decide) hm_z
      replace hm_z := rn_cmpT (am_cur_of (i := (82, 3, .if_icmp .ne 8, (52, 0, 0), 0)) (by decide +kernel)) (by decide) hm_z
      replace hm_z := rn_iload_n (am_cur_of (i := (90, 1, .iload_n 2, (0, 0, 0), 0)) (by decide +kernel)) g2_z hm_z
      replace hm_z := rn_iconst (w := 3) (am_cur_of (i := (91, 1, .iconst 3, (0, 0, 0), 0)) (by decide +kernel)) (by decide) hm_z
      replace hm_z := rn_cmpF (am_cur_of (i := (92, 3, .if_icmp .eq 8, (58, 0, 0), 0)) (by decide +kernel)) (by decide) hm_z
      replace hm_z := rn_iload_n (am_cur_of (i := (95, 1, .iload_n 2, (0, 0, 0), 0)) (by decide +kernel)) g2_z hm_z
      replace hm_z := rn_iconst (w := 5) (am_cur_of (i := (96, 1, .iconst 5, (0, 0, 0), 0)) (by decide +kernel)) (by decide) hm_z
      replace hm_z := rn_cmpT (am_cur_of (i := (97, 3, .if_icmp .ne 8, (60, 0, 0), 0)) (by decide +kernel)) (by decide) hm_z
      replace hm_z := rn_bipush (w := 99) (am_cur_of (i := (105, 2, .bipush 99, (0, 0, 0), 0)) (by decide +kernel)) (by decide) hm_z
      replace hm_z := rn_istore (am_cur_of (i := (107, 2, .istore 4, (0, 0, 0), 0)) (by decide +kernel)) hm_z
      obtain ⟨_, s228_z, s229_z, g4_z, hm_z⟩ := hm_z
      replace g0_z := s228_z 0 _ (by decide) rfl g0_z
      replace g1_z := s228_z 1 _ (by decide) rfl g1_z
      replace g2_z := s228_z 2 _ (by decide) rfl g2_z
      replace g3_z := s228_z 3 _ (by decide) rfl g3_z
      clear s228_z s229_z
      replace hm_z := rn_aload_n (am_cur_of (i := (109, 1, .aload_n 0, (0, 0, 0), 0)) (by decide +kernel)) g0_z hm_z
      replace hm_z := rn_iload_n (am_cur_of (i := (110, 1, .iload_n 3, (0, 0, 0), 0)) (by decide +kernel)) g3_z hm_z
      replace hm_z := rn_iload (am_cur_of (i := (111, 2, .iload 4, (0, 0, 0), 0)) (by decide +kernel)) g4_z hm_z
      replace hm_z := rn_callV (M' := am_m161) (o := 164) (ar := [.int 99, .int 1]) (rest := []) (L := lv_args 0 [.ref 164, .int 1, .int 99]) (am_cur_of (i := (113, 3, .invokevirtual 197, (161, 1677, 3), 0)) (by decide +kernel)) rfl rfl rfl rfl hm_z
      obtain ⟨r230_z, h231_z, q232_z, hm_z⟩ := hm_z
      obtain ⟨v233_z, rfl⟩ := rn_ret (M := am_m161) rfl (by decide) q232_z
      have K233 := kp_of (a := 161) (by decide) rfl (as := [.ref 164, .int 1, .int 99]) (ra_Sc (fun _ e => by cases e; rfl) (ra_Sc (ra_Vi) (ra_Sc (ra_Vi) ra_S0))) q232_z
      have z233_z := zM_t z220_z K233.1
      have e17_233 : rg_v h231_z 164 17 = 0 := (K233.2 17 (by decide)).trans e17_220
      have e18_233 : rg_v h231_z 164 18 = ct := (K233.2 18 (by decide)).trans e18_220
      have e19_233 : rg_v h231_z 164 19 = cl := (K233.2 19 (by decide)).trans e19_220
      have e20_233 : rg_v h231_z 164 20 = cq := (K233.2 20 (by decide)).trans e20_220
      replace hm_z : rn _ _ _ _ [.int v233_z] _ _ _ := hm_z
      replace hm_z := rn_if (am_cur_of (i := (116, 3, .ifCond .ne 5, (69, 0, 0), 0)) (by decide +kernel)) hm_z
      rcases hm_z with ⟨b234_z, hm_z⟩ | ⟨b234_z, hm_z⟩
      · replace b234_z : ¬ v233_z = (0 : Int32) ∧ ¬ v233_z.toInt = (0 : Int32).toInt := b234_z
        replace hm_z := rn_aload_n (am_cur_of (i := (121, 1, .aload_n 0, (0, 0, 0), 0)) (by decide +kernel)) g0_z hm_z
        replace hm_z := rn_getR (x := 170) (am_cur_of (i := (122, 3, .getfield 30, (12, 25, 1409), 0)) (by decide +kernel)) (by decide +kernel) hm_z
        replace hm_z := rn_iload_n (am_cur_of (i := (125, 1, .iload_n 1, (0, 0, 0), 0)) (by decide +kernel)) g1_z hm_z
        replace hm_z := rn_iload_n (am_cur_of (i := (126, 1, .iload_n 2, (0, 0, 0), 0)) (by decide +kernel)) g2_z hm_z
        replace hm_z := rn_iadd (w := 28) (am_cur_of (i := (127, 1, .iadd, (0, 0, 0), 0)) (by decide +kernel)) (by decide) hm_z
        replace hm_z := rn_aload_n (am_cur_of (i := (128, 1, .aload_n 0, (0, 0, 0), 0)) (by decide +kernel)) g0_z hm_z
        replace hm_z := rn_getI (v := rg_v h231_z 164 11) (am_cur_of (i := (129, 3, .getfield 188, (12, 11, 1395), 0)) (by decide +kernel)) (by decide +kernel) rfl hm_z
        replace hm_z := rn_iastore (N := 56) (q := 28) (am_cur_of (i := (132, 1, .iastore, (0, 0, 0), 0)) (by decide +kernel)) (by decide +kernel) rfl hm_z
        obtain ⟨p235_z, hm_z⟩ := hm_z
        replace hm_z := rn_iinc (w := 1) (am_cur_of (i := (133, 3, .iinc 2 1, (0, 0, 0), 0)) (by decide +kernel)) g2_z (by decide) hm_z
        obtain ⟨_, s236_z, s237_z, g2_z, hm_z⟩ := hm_z
        replace g0_z := s236_z 0 _ (by decide) rfl g0_z
        replace g1_z := s236_z 1 _ (by decide) rfl g1_z
        replace g3_z := s236_z 3 _ (by decide) rfl g3_z
        replace g4_z := s236_z 4 _ (by decide) rfl g4_z
        clear s236_z s237_z
        replace hm_z := rn_goto (am_cur_of (i := (136, 3, .goto (-87), (29, 0, 0), 0)) (by decide +kernel)) hm_z
        replace hm_z := rn_iload_n (am_cur_of (i := (49, 1, .iload_n 2, (0, 0, 0), 0)) (by decide +kernel)) g2_z hm_z
        replace hm_z := rn_bipush (w := 7) (am_cur_of (i := (50, 2, .bipush 7, (0, 0, 0), 0)) (by decide +kernel)) (by decide) hm_z
        replace hm_z := rn_cmpF (am_cur_of (i := (52, 3, .if_icmp .ge 87, (79, 0, 0), 0)) (by decide +kernel)) (by decide) hm_z
        replace hm_z := rn_iload_n (am_cur_of (i := (55, 1, .iload_n 2, (0, 0, 0), 0)) (by decide +kernel)) g2_z hm_z
        replace hm_z := rn_ifF (am_cur_of (i := (56, 3, .ifCond .eq 13, (40, 0, 0), 0)) (by decide +kernel)) (by decide) hm_z
        replace hm_z := rn_iload_n (am_cur_of (i := (59, 1, .iload_n 2, (0, 0, 0), 0)) (by decide +kernel)) g2_z hm_z
        replace hm_z := rn_iconst (w := 2) (am_cur_of (i := (60, 1, .iconst 2, (0, 0, 0), 0)) (by decide +kernel)) (by decide) hm_z
        replace hm_z := rn_cmpF (am_cur_of (i := (61, 3, .if_icmp .eq 8, (40, 0, 0), 0)) (by decide +kernel)) (by decide) hm_z
        replace hm_z := rn_iload_n (am_cur_of (i := (64, 1, .iload_n 2, (0, 0, 0), 0)) (by decide +kernel)) g2_z hm_z
        replace hm_z := rn_iconst (w := 3) (am_cur_of (i := (65, 1, .iconst 3, (0, 0, 0), 0)) (by decide +kernel)) (by decide) hm_z
        replace hm_z := rn_cmpT (am_cur_of (i := (66, 3, .if_icmp .ne 7, (42, 0, 0), 0)) (by decide +kernel)) (by decide) hm_z
        replace hm_z := rn_iconst (w := 0) (am_cur_of (i := (73, 1, .iconst 0, (0, 0, 0), 0)) (by decide +kernel)) (by decide) hm_z
        replace hm_z := rn_istore_n (am_cur_of (i := (74, 1, .istore_n 3, (0, 0, 0), 0)) (by decide +kernel)) hm_z
        obtain ⟨_, s238_z, s239_z, g3_z, hm_z⟩ := hm_z
        replace g0_z := s238_z 0 _ (by decide) rfl g0_z
        replace g1_z := s238_z 1 _ (by decide) rfl g1_z
        replace g2_z := s238_z 2 _ (by decide) rfl g2_z
        replace g4_z := s238_z 4 _ (by decide) rfl g4_z
        clear s238_z s239_z
        replace hm_z := rn_iload_n (am_cur_of (i := (75, 1, .iload_n 2, (0, 0, 0), 0)) (by decide +kernel)) g2_z hm_z
        replace hm_z := rn_iconst (w := 1) (am_cur_of (i := (76, 1, .iconst 1, (0, 0, 0), 0)) (by decide +kernel)) (by decide) hm_z
        replace hm_z := rn_cmpT (am_cur_of (i := (77, 3, .if_icmp .eq 8, (50, 0, 0), 0)) (by decide +kernel)) (by decide) hm_z
        replace hm_z := rn_bipush (w := 20) (am_cur_of (i := (85, 2, .bipush 20, (0, 0, 0), 0)) (by decide +kernel)) (by decide) hm_z
        replace hm_z := rn_goto (am_cur_of (i := (87, 3, .goto 20, (61, 0, 0), 0)) (by decide +kernel)) hm_z
        replace hm_z := rn_istore (am_cur_of (i := (107, 2, .istore 4, (0, 0, 0), 0)) (by decide +kernel)) hm_z
        obtain ⟨_, s240_z, s241_z, g4_z, hm_z⟩ := hm_z
        replace g0_z := s240_z 0 _ (by decide) rfl g0_z
        replace g1_z := s240_z 1 _ (by decide) rfl g1_z
        replace g2_z := s240_z 2 _ (by decide) rfl g2_z
        replace g3_z := s240_z 3 _ (by decide) rfl g3_z
        clear s240_z s241_z
        replace hm_z := rn_aload_n (am_cur_of (i := (109, 1, .aload_n 0, (0, 0, 0), 0)) (by decide +kernel)) g0_z hm_z
        replace hm_z := rn_iload_n (am_cur_of (i := (110, 1, .iload_n 3, (0, 0, 0), 0)) (by decide +kernel)) g3_z hm_z
        replace hm_z := rn_iload (am_cur_of (i := (111, 2, .iload 4, (0, 0, 0), 0)) (by decide +kernel)) g4_z hm_z
        replace hm_z := rn_callV (M' := am_m161) (o := 164) (ar := [.int 20, .int 0]) (rest := []) (L := lv_args 0 [.ref 164, .int 0, .int 20]) (am_cur_of (i := (113, 3, .invokevirtual 197, (161, 1677, 3), 0)) (by decide +kernel)) rfl rfl rfl rfl hm_z
        obtain ⟨r242_z, h243_z, q244_z, hm_z⟩ := hm_z
        obtain ⟨v245_z, rfl⟩ := rn_ret (M := am_m161) rfl (by decide) q244_z
        have K245 := kp_of (a := 161) (by decide) rfl (as := [.ref 164, .int 0, .int 20]) (ra_Sc (fun _ e => by cases e; rfl) (ra_Sc (ra_Vi) (ra_Sc (ra_Vi) ra_S0))) q244_z
        have z245_z := zM_t (zM_u (o := 170) (k := 28) (by decide) z233_z) K245.1
        have e17_245 : rg_v h243_z 164 17 = 0 := (K245.2 17 (by decide)).trans (show rg_v (am_up h231_z 170 28 (.int (rg_v h231_z 164 11))) 164 17 = 0 from e17_233)
        have e18_245 : rg_v h243_z 164 18 = ct := (K245.2 18 (by decide)).trans (show rg_v (am_up h231_z 170 28 (.int (rg_v h231_z 164 11))) 164 18 = ct from e18_233)
        have e19_245 : rg_v h243_z 164 19 = cl := (K245.2 19 (by decide)).trans (show rg_v (am_up h231_z 170 28 (.int (rg_v h231_z 164 11))) 164 19 = cl from e19_233)
        have e20_245 : rg_v h243_z 164 20 = cq := (K245.2 20 (by decide)).trans (show rg_v (am_up h231_z 170 28 (.int (rg_v h231_z 164 11))) 164 20 = cq from e20_233)
        replace hm_z : rn _ _ _ _ [.int v245_z] _ _ _ := hm_z
        replace hm_z := rn_if (am_cur_of (i := (116, 3, .ifCond .ne 5, (69, 0, 0), 0)) (by decide +kernel)) hm_z
        rcases hm_z with ⟨b246_z, hm_z⟩ | ⟨b246_z, hm_z⟩
        · replace b246_z : ¬ v245_z = (0 : Int32) ∧ ¬ v245_z.toInt = (0 : Int32).toInt := b246_z
          replace hm_z := rn_aload_n (am_cur_of (i := (121, 1, .aload_n 0, (0, 0, 0), 0)) (by decide +kernel)) g0_z hm_z
          replace hm_z := rn_getR (x := 170) (am_cur_of (i := (122, 3, .getfield 30, (12, 25, 1409), 0)) (by decide +kernel)) (by decide +kernel) hm_z
          replace hm_z := rn_iload_n (am_cur_of (i := (125, 1, .iload_n 1, (0, 0, 0), 0)) (by decide +kernel)) g1_z hm_z
          replace hm_z := rn_iload_n (am_cur_of (i := (126, 1, .iload_n 2, (0, 0, 0), 0)) (by decide +kernel)) g2_z hm_z
          replace hm_z := rn_iadd (w := 29) (am_cur_of (i := (127, 1, .iadd, (0, 0, 0), 0)) (by decide +kernel)) (by decide) hm_z
          replace hm_z := rn_aload_n (am_cur_of (i := (128, 1, .aload_n 0, (0, 0, 0), 0)) (by decide +kernel)) g0_z hm_z
          replace hm_z := rn_getI (v := rg_v h243_z 164 11) (am_cur_of (i := (129, 3, .getfield 188, (12, 11, 1395), 0)) (by decide +kernel)) (by decide +kernel) rfl hm_z
          replace hm_z := rn_iastore (N := 56) (q := 29) (am_cur_of (i := (132, 1, .iastore, (0, 0, 0), 0)) (by decide +kernel)) (by decide +kernel) rfl hm_z
          obtain ⟨p247_z, hm_z⟩ := hm_z
          replace hm_z := rn_iinc (w := 2) (am_cur_of (i := (133, 3, .iinc 2 1, (0, 0, 0), 0)) (by decide +kernel)) g2_z (by decide) hm_z
          obtain ⟨_, s248_z, s249_z, g2_z, hm_z⟩ := hm_z
          replace g0_z := s248_z 0 _ (by decide) rfl g0_z
          replace g1_z := s248_z 1 _ (by decide) rfl g1_z
          replace g3_z := s248_z 3 _ (by decide) rfl g3_z
          replace g4_z := s248_z 4 _ (by decide) rfl g4_z
          clear s248_z s249_z
          replace hm_z := rn_goto (am_cur_of (i := (136, 3, .goto (-87), (29, 0, 0), 0)) (by decide +kernel)) hm_z
          replace hm_z := rn_iload_n (am_cur_of (i := (49, 1, .iload_n 2, (0, 0, 0), 0)) (by decide +kernel)) g2_z hm_z
          replace hm_z := rn_bipush (w := 7) (am_cur_of (i := (50, 2, .bipush 7, (0, 0, 0), 0)) (by decide +kernel)) (by decide) hm_z
          replace hm_z := rn_cmpF (am_cur_of (i := (52, 3, .if_icmp .ge 87, (79, 0, 0), 0)) (by decide +kernel)) (by decide) hm_z
          replace hm_z := rn_iload_n (am_cur_of (i := (55, 1, .iload_n 2, (0, 0, 0), 0)) (by decide +kernel)) g2_z hm_z
          replace hm_z := rn_ifF (am_cur_of (i := (56, 3, .ifCond .eq 13, (40, 0, 0), 0)) (by decide +kernel)) (by decide) hm_z
          replace hm_z := rn_iload_n (am_cur_of (i := (59, 1, .iload_n 2, (0, 0, 0), 0)) (by decide +kernel)) g2_z hm_z
          replace hm_z := rn_iconst (w := 2) (am_cur_of (i := (60, 1, .iconst 2, (0, 0, 0), 0)) (by decide +kernel)) (by decide) hm_z
          replace hm_z := rn_cmpT (am_cur_of (i := (61, 3, .if_icmp .eq 8, (40, 0, 0), 0)) (by decide +kernel)) (by decide) hm_z
          replace hm_z := rn_iconst (w := 1) (am_cur_of (i := (69, 1, .iconst 1, (0, 0, 0), 0)) (by decide +kernel)) (by decide) hm_z
          replace hm_z := rn_goto (am_cur_of (i := (70, 3, .goto 4, (43, 0, 0), 0)) (by decide +kernel)) hm_z
          replace hm_z := rn_istore_n (am_cur_of (i := (74, 1, .istore_n 3, (0, 0, 0), 0)) (by decide +kernel)) hm_z
          obtain ⟨_, s250_z, s251_z, g3_z, hm_z⟩ := hm_z
          replace g0_z := s250_z 0 _ (by decide) rfl g0_z
          replace g1_z := s250_z 1 _ (by decide) rfl g1_z
          replace g2_z := s250_z 2 _ (by decide) rfl g2_z
          replace g4_z := s250_z 4 _ (by decide) rfl g4_z
          clear s250_z s251_z
          replace hm_z := rn_iload_n (am_cur_of (i := (75, 1, .iload_n 2, (0, 0, 0), 0)) (by decide +kernel)) g2_z hm_z
          replace hm_z := rn_iconst (w := 1) (am_cur_of (i := (76, 1, .iconst 1, (0, 0, 0), 0)) (by decide +kernel)) (by decide) hm_z
          replace hm_z := rn_cmpF (am_cur_of (i := (77, 3, .if_icmp .eq 8, (50, 0, 0), 0)) (by decide +kernel)) (by decide) hm_z
          replace hm_z := rn_iload_n (am_cur_of (i := (80, 1, .iload_n 2, (0, 0, 0), 0)) (by decide +kernel)) g2_z hm_z
          replace hm_z := rn_iconst (w := 2) (am_cur_of (i := (81, 1, .iconst 2, (0, 0, 0), 0)) (by decide +kernel)) (by decide) hm_z
          replace hm_z := rn_cmpF (am_cur_of (i := (82, 3, .if_icmp .ne 8, (52, 0, 0), 0)) (by decide +kernel)) (by decide) hm_z
          replace hm_z := rn_bipush (w := 20) (am_cur_of (i := (85, 2, .bipush 20, (0, 0, 0), 0)) (by decide +kernel)) (by decide) hm_z
          replace hm_z := rn_goto (am_cur_of (i := (87, 3, .goto 20, (61, 0, 0), 0)) (by decide +kernel)) hm_z
          replace hm_z := rn_istore (am_cur_of (i := (107, 2, .istore 4, (0, 0, 0), 0)) (by decide +kernel)) hm_z
          obtain ⟨_, s252_z, s253_z, g4_z, hm_z⟩ := hm_z
          replace g0_z := s252_z 0 _ (by decide) rfl g0_z
          replace g1_z := s252_z 1 _ (by decide) rfl g1_z
          replace g2_z := s252_z 2 _ (by decide) rfl g2_z
          replace g3_z := s252_z 3 _ (by decide) rfl g3_z
          clear s252_z s253_z
          replace hm_z := rn_aload_n (am_cur_of (i := (109, 1, .aload_n 0, (0, 0, 0), 0)) (by decide +kernel)) g0_z hm_z
          replace hm_z := rn_iload_n (am_cur_of (i := (110, 1, .iload_n 3, (0, 0, 0), 0)) (by decide +kernel)) g3_z hm_z
          replace hm_z := rn_iload (am_cur_of (i := (111, 2, .iload 4, (0, 0, 0), 0)) (by decide +kernel)) g4_z hm_z
          replace hm_z := rn_callV (M' := am_m161) (o := 164) (ar := [.int 20, .int 1]) (rest := []) (L := lv_args 0 [.ref 164, .int 1, .int 20]) (am_cur_of (i := (113, 3, .invokevirtual 197, (161, 1677, 3), 0)) (by decide +kernel)) rfl rfl rfl rfl hm_z
          obtain ⟨r254_z, h255_z, q256_z, hm_z⟩ := hm_z
          obtain ⟨v257_z, rfl⟩ := rn_ret (M := am_m161) rfl (by decide) q256_z
          have K257 := kp_of (a := 161) (by decide) rfl (as := [.ref 164, .int 1, .int 20]) (ra_Sc (fun _ e => by cases e; rfl) (ra_Sc (ra_Vi) (ra_Sc (ra_Vi) ra_S0))) q256_z
          have z257_z := zM_t (zM_u (o := 170) (k := 29) (by decide) z245_z) K257.1
          have e17_257 : rg_v h255_z 164 17 = 0 := (K257.2 17 (by decide)).trans (show rg_v (am_up h243_z 170 29 (.int (rg_v h243_z 164 11))) 164 17 = 0 from e17_245)
          have e18_257 : rg_v h255_z 164 18 = ct := (K257.2 18 (by decide)).trans (show rg_v (am_up h243_z 170 29 (.int (rg_v h243_z 164 11))) 164 18 = ct from e18_245)
          have e19_257 : rg_v h255_z 164 19 = cl := (K257.2 19 (by decide)).trans (show rg_v (am_up h243_z 170 29 (.int (rg_v h243_z 164 11))) 164 19 = cl from e19_245)
          have e20_257 : rg_v h255_z 164 20 = cq := (K257.2 20 (by decide)).trans (show rg_v (am_up h243_z 170 29 (.int (rg_v h243_z 164 11))) 164 20 = cq from e20_245)
          replace hm_z : rn _ _ _ _ [.int v257_z] _ _ _ := hm_z
          replace hm_z := rn_if (am_cur_of (i := (116, 3, .ifCond .ne 5, (69, 0, 0), 0)) (by decide +kernel)) hm_z
          rcases hm_z with ⟨b258_z, hm_z⟩ | ⟨b258_z, hm_z⟩
          · replace b258_z : ¬ v257_z = (0 : Int32) ∧ ¬ v257_z.toInt = (0 : Int32).toInt := b258_z
            replace hm_z := rn_aload_n (am_cur_of (i := (121, 1, .aload_n 0, (0, 0, 0), 0)) (by decide +kernel)) g0_z hm_z
            replace hm_z := rn_getR (x := 170) (am_cur_of (i := (122, 3, .getfield 30, (12, 25, 1409), 0)) (by decide +kernel)) (by decide +kernel) hm_z
            replace hm_z := rn_iload_n (am_cur_of (i := (125, 1, .iload_n 1, (0, 0, 0), 0)) (by decide +kernel)) g1_z hm_z
            replace hm_z := rn_iload_n (am_cur_of (i := (126, 1, .iload_n 2, (0, 0, 0), 0)) (by decide +kernel)) g2_z hm_z
            replace hm_z := rn_iadd (w := 30) (am_cur_of (i := (127, 1, .iadd, (0, 0, 0), 0)) (by decide +kernel)) (by decide) hm_z
            replace hm_z := rn_aload_n (am_cur_of (i := (128, 1, .aload_n 0, (0, 0, 0), 0)) (by decide +kernel)) g0_z hm_z
            replace hm_z := rn_getI (v := rg_v h255_z 164 11) (am_cur_of (i := (129, 3, .getfield 188, (12, 11, 1395), 0)) (by decide +kernel)) (by decide +kernel) rfl hm_z
            replace hm_z := rn_iastore (N := 56) (q := 30) (am_cur_of (i := (132, 1, .iastore, (0, 0, 0), 0)) (by decide +kernel)) (by decide +kernel) rfl hm_z
            obtain ⟨p259_z, hm_z⟩ := hm_z
            replace hm_z := rn_iinc (w := 3) (am_cur_of (i := (133, 3, .iinc 2 1, (0, 0, 0), 0)) (by decide +kernel)) g2_z (by decide) hm_z
            obtain ⟨_, s260_z, s261_z, g2_z, hm_z⟩ := hm_z
            replace g0_z := s260_z 0 _ (by decide) rfl g0_z
            replace g1_z := s260_z 1 _ (by decide) rfl g1_z
            replace g3_z := s260_z 3 _ (by decide) rfl g3_z
            replace g4_z := s260_z 4 _ (by decide) rfl g4_z
            clear s260_z s261_z
            replace hm_z := rn_goto (am_cur_of (i := (136, 3, .goto (-87), (29, 0, 0), 0)) (by decide +kernel)) hm_z
            replace hm_z := rn_iload_n (am_cur_of (i := (49, 1, .iload_n 2, (0, 0, 0), 0)) (by decide +kernel)) g2_z hm_z
            replace hm_z := rn_bipush (w := 7) (am_cur_of (i := (50, 2, .bipush 7, (0, 0, 0), 0)) (by decide +kernel)) (by decide) hm_z
            replace hm_z := rn_cmpF (am_cur_of (i := (52, 3, .if_icmp .ge 87, (79, 0, 0), 0)) (by decide +kernel)) (by decide) hm_z
            replace hm_z := rn_iload_n (am_cur_of (i := (55, 1, .iload_n 2, (0, 0, 0), 0)) (by decide +kernel)) g2_z hm_z
            replace hm_z := rn_ifF (am_cur_of (i := (56, 3, .ifCond .eq 13, (40, 0, 0), 0)) (by decide +kernel)) (by decide) hm_z
            replace hm_z := rn_iload_n (am_cur_of (i := (59, 1, .iload_n 2, (0, 0, 0), 0)) (by decide +kernel)) g2_z hm_z
            replace hm_z := rn_iconst (w := 2) (am_cur_of (i := (60, 1, .iconst 2, (0, 0, 0), 0)) (by decide +kernel)) (by decide) hm_z
            replace hm_z := rn_cmpF (am_cur_of (i := (61, 3, .if_icmp .eq 8, (40, 0, 0), 0)) (by decide +kernel)) (by decide) hm_z
            replace hm_z := rn_iload_n (am_cur_of (i := (64, 1, .iload_n 2, (0, 0, 0), 0)) (by decide +kernel)) g2_z hm_z
            replace hm_z := rn_iconst (w := 3) (am_cur_of (i := (65, 1, .iconst 3, (0, 0, 0), 0)) (by decide +kernel)) (by decide) hm_z
            replace hm_z := rn_cmpF (am_cur_of (i := (66, 3, .if_icmp .ne 7, (42, 0, 0), 0)) (by decide +kernel)) (by decide) hm_z
            replace hm_z := rn_iconst (w := 1) (am_cur_of (i := (69, 1, .iconst 1, (0, 0, 0), 0)) (by decide +kernel)) (by decide) hm_z
            replace hm_z := rn_goto (am_cur_of (i := (70, 3, .goto 4, (43, 0, 0), 0)) (by decide +kernel)) hm_z
            replace hm_z := rn_istore_n (am_cur_of (i := (74, 1, .istore_n 3, (0, 0, 0), 0)) (by decide +kernel)) hm_z
            obtain ⟨_, s262_z, s263_z, g3_z, hm_z⟩ := hm_z
            replace g0_z := s262_z 0 _ (by decide) rfl g0_z
            replace g1_z := s262_z 1 _ (by decide) rfl g1_z
            replace g2_z := s262_z 2 _ (by decide) rfl g2_z
            replace g4_z := s262_z 4 _ (by decide) rfl g4_z
            clear s262_z s263_z
            replace hm_z := rn_iload_n (am_cur_of (i := (75, 1, .iload_n 2, (0, 0, 0), 0)) (by decide +kernel)) g2_z hm_z
            replace hm_z := rn_iconst (w := 1) (am_cur_of (i := (76, 1, .iconst 1, (0, 0, 0), 0)) (by decide +kernel)) (by decide) hm_z
            replace hm_z := rn_cmpF (am_cur_of (i := (77, 3, .if_icmp .eq 8, (50, 0, 0), 0)) (by decide +kernel)) (by decide) hm_z
            replace hm_z := rn_iload_n (am_cur_of (i := (80, 1, .iload_n 2, (0, 0, 0), 0)) (by decide +kernel)) g2_z hm_z
            replace hm_z := rn_iconst (w := 2) (am_cur_of (i := (81, 1, .iconst 2, (0, 0, 0), 0)) (by decide +kernel)) (by decide) hm_z
            replace hm_z := rn_cmpT (am_cur_of (i := (82, 3, .if_icmp .ne 8, (52, 0, 0), 0)) (by decide +kernel)) (by decide) hm_z
            replace hm_z := rn_iload_n (am_cur_of (i := (90, 1, .iload_n 2, (0, 0, 0), 0)) (by decide +kernel)) g2_z hm_z
            replace hm_z := rn_iconst (w := 3) (am_cur_of (i := (91, 1, .iconst 3, (0, 0, 0), 0)) (by decide +kernel)) (by decide) hm_z
            replace hm_z := rn_cmpT (am_cur_of (i := (92, 3, .if_icmp .eq 8, (58, 0, 0), 0)) (by decide +kernel)) (by decide) hm_z
            replace hm_z := rn_bipush (w := 9) (am_cur_of (i := (100, 2, .bipush 9, (0, 0, 0), 0)) (by decide +kernel)) (by decide) hm_z
            replace hm_z := rn_goto (am_cur_of (i := (102, 3, .goto 5, (61, 0, 0), 0)) (by decide +kernel)) hm_z
            replace hm_z := rn_istore (am_cur_of (i := (107, 2, .istore 4, (0, 0, 0), 0)) (by decide +kernel)) hm_z
            obtain ⟨_, s264_z, s265_z, g4_z, hm_z⟩ := hm_z
            replace g0_z := s264_z 0 _ (by decide) rfl g0_z
            replace g1_z := s264_z 1 _ (by decide) rfl g1_z
            replace g2_z := s264_z 2 _ (by decide) rfl g2_z
            replace g3_z := s264_z 3 _ (by decide) rfl g3_z
            clear s264_z s265_z
            replace hm_z := rn_aload_n (am_cur_of (i := (109, 1, .aload_n 0, (0, 0, 0), 0)) (by decide +kernel)) g0_z hm_z
            replace hm_z := rn_iload_n (am_cur_of (i := (110, 1, .iload_n 3, (0, 0, 0), 0)) (by decide +kernel)) g3_z hm_z
            replace hm_z := rn_iload (am_cur_of (i := (111, 2, .iload 4, (0, 0, 0), 0)) (by decide +kernel)) g4_z hm_z
            replace hm_z := rn_callV (M' := am_m161) (o := 164) (ar := [.int 9, .int 1]) (rest := []) (L := lv_args 0 [.ref 164, .int 1, .int 9]) (am_cur_of (i := (113, 3, .invokevirtual 197, (161, 1677, 3), 0)) (by decide +kernel)) rfl rfl rfl rfl hm_z
            obtain ⟨r266_z, h267_z, q268_z, hm_z⟩ := hm_z
            obtain ⟨v269_z, rfl⟩ := rn_ret (M := am_m161) rfl (by decide) q268_z
            have K269 := kp_of (a := 161) (by decide) rfl (as := [.ref 164, .int 1, .int 9]) (ra_Sc (fun _ e => by cases e; rfl) (ra_Sc (ra_Vi) (ra_Sc (ra_Vi) ra_S0))) q268_z
            have z269_z := zM_t (zM_u (o := 170) (k := 30) (by decide) z257_z) K269.1
            have e17_269 : rg_v h267_z 164 17 = 0 := (K269.2 17 (by decide)).trans (show rg_v (am_up h255_z 170 30 (.int (rg_v h255_z 164 11))) 164 17 = 0 from e17_257)
            have e18_269 : rg_v h267_z 164 18 = ct := (K269.2 18 (by decide)).trans (show rg_v (am_up h255_z 170 30 (.int (rg_v h255_z 164 11))) 164 18 = ct from e18_257)
            have e19_269 : rg_v h267_z 164 19 = cl := (K269.2 19 (by decide)).trans (show rg_v (am_up h255_z 170 30 (.int (rg_v h255_z 164 11))) 164 19 = cl from e19_257)
            have e20_269 : rg_v h267_z 164 20 = cq := (K269.2 20 (by decide)).trans (show rg_v (am_up h255_z 170 30 (.int (rg_v h255_z 164 11))) 164 20 = cq from e20_257)
            replace hm_z : rn _ _ _ _ [.int v269_z] _ _ _ := hm_z
            replace hm_z := rn_if (am_cur_of (i := (116, 3, .ifCond .ne 5, (69, 0, 0), 0)) (by decide +kernel)) hm_z
            rcases hm_z with ⟨b270_z, hm_z⟩ | ⟨b270_z, hm_z⟩
            · replace b270_z : ¬ v269_z = (0 : Int32) ∧ ¬ v269_z.toInt = (0 : Int32).toInt := b270_z
              replace hm_z := rn_aload_n (am_cur_of (i := (121, 1, .aload_n 0, (0, 0, 0), 0)) (by decide +kernel)) g0_z hm_z
              replace hm_z := rn_getR (x := 170) (am_cur_of (i := (122, 3, .getfield 30, (12, 25, 1409), 0)) (by decide +kernel)) (by decide +kernel) hm_z
              replace hm_z := rn_iload_n (am_cur_of (i := (125, 1, .iload_n 1, (0, 0, 0), 0)) (by decide +kernel)) g1_z hm_z
              replace hm_z := rn_iload_n (am_cur_of (i := (126, 1, .iload_n 2, (0, 0, 0), 0)) (by decide +kernel)) g2_z hm_z
              replace hm_z := rn_iadd (w := 31) (am_cur_of (i := (127, 1, .iadd, (0, 0, 0), 0)) (by decide +kernel)) (by decide) hm_z
              replace hm_z := rn_aload_n (am_cur_of (i := (128, 1, .aload_n 0, (0, 0, 0), 0)) (by decide +kernel)) g0_z hm_z
              replace hm_z := rn_getI (v := rg_v h267_z 164 11) (am_cur_of (i := (129, 3, .getfield 188, (12, 11, 1395), 0)) (by decide +kernel)) (by decide +kernel) rfl hm_z
              replace hm_z := rn_iastore (N := 56) (q := 31) (am_cur_of (i := (132, 1, .iastore, (0, 0, 0), 0)) (by decide +kernel)) (by decide +kernel) rfl hm_z
              obtain ⟨p271_z, hm_z⟩ := hm_z
              replace hm_z := rn_iinc (w := 4) (am_cur_of (i := (133, 3, .iinc 2 1, (0, 0, 0), 0)) (by decide +kernel)) g2_z (by decide) hm_z
              obtain ⟨_, s272_z, s273_z, g2_z, hm_z⟩ := hm_z
              replace g0_z := s272_z 0 _ (by decide) rfl g0_z
              replace g1_z := s272_z 1 _ (by decide) rfl g1_z
              replace g3_z := s272_z 3 _ (by decide) rfl g3_z
              replace g4_z := s272_z 4 _ (by decide) rfl g4_z
              clear s272_z s273_z
              replace hm_z := rn_goto (am_cur_of (i := (136, 3, .goto (-87), (29, 0, 0), 0)) (by decide +kernel)) hm_z
              replace hm_z := rn_iload_n (am_cur_of (i := (49, 1, .iload_n 2, (0, 0, 0), 0)) (by decide +kernel)) g2_z hm_z
              replace hm_z := rn_bipush (w := 7) (am_cur_of (i := (50, 2, .bipush 7, (0, 0, 0), 0)) (by decide +kernel)) (by decide) hm_z
              replace hm_z := rn_cmpF (am_cur_of (i := (52, 3, .if_icmp .ge 87, (79, 0, 0), 0)) (by decide +kernel)) (by decide) hm_z
              replace hm_z := rn_iload_n (am_cur_of (i := (55, 1, .iload_n 2, (0, 0, 0), 0)) (by decide +kernel)) g2_z hm_z
              replace hm_z := rn_ifF (am_cur_of (i := (56, 3, .ifCond .eq 13, (40, 0, 0), 0)) (by decide +kernel)) (by decide) hm_z
              replace hm_z := rn_iload_n (am_cur_of (i := (59, 1, .iload_n 2, (0, 0, 0), 0)) (by decide +kernel)) g2_z hm_z
              replace hm_z := rn_iconst (w := 2) (am_cur_of (i := (60, 1, .iconst 2, (0, 0, 0), 0)) (by decide +kernel)) (by decide) hm_z
              replace hm_z := rn_cmpF (am_cur_of (i := (61, 3, .if_icmp .eq 8, (40, 0, 0), 0)) (by decide +kernel)) (by decide) hm_z
              replace hm_z := rn_iload_n (am_cur_of (i := (64, 1, .iload_n 2, (0, 0, 0), 0)) (by decide +kernel)) g2_z hm_z
              replace hm_z := rn_iconst (w := 3) (am_cur_of (i := (65, 1, .iconst 3, (0, 0, 0), 0)) (by decide +kernel)) (by decide) hm_z
              replace hm_z := rn_cmpT (am_cur_of (i := (66, 3, .if_icmp .ne 7, (42, 0, 0), 0)) (by decide +kernel)) (by decide) hm_z
              replace hm_z := rn_iconst (w := 0) (am_cur_of (i := (73, 1, .iconst 0, (0, 0, 0), 0)) (by decide +kernel)) (by decide) hm_z
              replace hm_z := rn_istore_n (am_cur_of (i := (74, 1, .istore_n 3, (0, 0, 0), 0)) (by decide +kernel)) hm_z
              obtain ⟨_, s274_z, s275_z, g3_z, hm_z⟩ := hm_z
              replace g0_z := s274_z 0 _ (by decide) rfl g0_z
              replace g1_z := s274_z 1 _ (by decide) rfl g1_z
              replace g2_z := s274_z 2 _ (by decide) rfl g2_z
              replace g4_z := s274_z 4 _ (by decide) rfl g4_z
              clear s274_z s275_z
              replace hm_z := rn_iload_n (am_cur_of (i := (75, 1, .iload_n 2, (0, 0, 0), 0)) (by decide +kernel)) g2_z hm_z
              replace hm_z := rn_iconst (w := 1) (am_cur_of (i := (76, 1, .iconst 1, (0, 0, 0), 0)) (by decide +kernel)) (by decide) hm_z
              replace hm_z := rn_cmpF (am_cur_of (i := (77, 3, .if_icmp .eq 8, (50, 0, 0), 0)) (by decide +kernel)) (by decide) hm_z
              replace hm_z := rn_iload_n (am_cur_of (i := (80, 1, .iload_n 2, (0, 0, 0), 0)) (by decide +kernel)) g2_z hm_z
              replace hm_z := rn_iconst (w := 2) (am_cur_of (i := (81, 1, .iconst 2, (0, 0, 0), 0)) (by decide +kernel)) (by decide) hm_z
              replace hm_z := rn_cmpT (am_cur_of (i := (82, 3, .if_icmp .ne 8, (52, 0, 0), 0)) (by decide +kernel)) (by decide) hm_z
              replace hm_z := rn_iload_n (am_cur_of (i := (90, 1, .iload_n 2, (0, 0, 0), 0)) (by decide +kernel)) g2_z hm_z
              replace hm_z := rn_iconst (w := 3) (am_cur_of (i := (91, 1, .iconst 3, (0, 0, 0), 0)) (by decide +kernel)) (by decide) hm_z
              replace hm_z := rn_cmpF (am_cur_of (i := (92, 3, .if_icmp .eq 8, (58, 0, 0), 0)) (by decide +kernel)) (by decide) hm_z
              replace hm_z := rn_iload_n (am_cur_of (i := (95, 1, .iload_n 2, (0, 0, 0), 0)) (by decide +kernel)) g2_z hm_z
              replace hm_z := rn_iconst (w := 5) (am_cur_of (i := (96, 1, .iconst 5, (0, 0, 0), 0)) (by decide +kernel)) (by decide) hm_z
              replace hm_z := rn_cmpT (am_cur_of (i := (97, 3, .if_icmp .ne 8, (60, 0, 0), 0)) (by decide +kernel)) (by decide) hm_z
              replace hm_z := rn_bipush (w := 99) (am_cur_of (i := (105, 2, .bipush 99, (0, 0, 0), 0)) (by decide +kernel)) (by decide) hm_z
              replace hm_z := rn_istore (am_cur_of (i := (107, 2, .istore 4, (0, 0, 0), 0)) (by decide +kernel)) hm_z
              obtain ⟨_, s276_z, s277_z, g4_z, hm_z⟩ := hm_z
              replace g0_z := s276_z 0 _ (by decide) rfl g0_z
              replace g1_z := s276_z 1 _ (by decide) rfl g1_z
              replace g2_z := s276_z 2 _ (by decide) rfl g2_z
              replace g3_z := s276_z 3 _ (by decide) rfl g3_z
              clear s276_z s277_z
              replace hm_z := rn_aload_n (am_cur_of (i := (109, 1, .aload_n 0, (0, 0, 0), 0)) (by decide +kernel)) g0_z hm_z
              replace hm_z := rn_iload_n (am_cur_of (i := (110, 1, .iload_n 3, (0, 0, 0), 0)) (by decide +kernel)) g3_z hm_z
              replace hm_z := rn_iload (am_cur_of (i := (111, 2, .iload 4, (0, 0, 0), 0)) (by decide +kernel)) g4_z hm_z
              replace hm_z := rn_callV (M' := am_m161) (o := 164) (ar := [.int 99, .int 0]) (rest := []) (L := lv_args 0 [.ref 164, .int 0, .int 99]) (am_cur_of (i := (113, 3, .invokevirtual 197, (161, 1677, 3), 0)) (by decide +kernel)) rfl rfl rfl rfl hm_z
              obtain ⟨r278_z, h279_z, q280_z, hm_z⟩ := hm_z
              obtain ⟨v281_z, rfl⟩ := rn_ret (M := am_m161) rfl (by decide) q280_z
              have K281 := kp_of (a := 161) (by decide) rfl (as := [.ref 164, .int 0, .int 99]) (ra_Sc (fun _ e => by cases e; rfl) (ra_Sc (ra_Vi) (ra_Sc (ra_Vi) ra_S0))) q280_z
              have z281_z := zM_t (zM_u (o := 170) (k := 31) (by decide) z269_z) K281.1
              have e17_281 : rg_v h279_z 164 17 = 0 := (K281.2 17 (by decide)).trans (show rg_v (am_up h267_z 170 31 (.int (rg_v h267_z 164 11))) 164 17 = 0 from e17_269)
              have e18_281 : rg_v h279_z 164 18 = ct := (K281.2 18 (by decide)).trans (show rg_v (am_up h267_z 170 31 (.int (rg_v h267_z 164 11))) 164 18 = ct from e18_269)
              have e19_281 : rg_v h279_z 164 19 = cl := (K281.2 19 (by decide)).trans (show rg_v (am_up h267_z 170 31 (.int (rg_v h267_z 164 11))) 164 19 = cl from e19_269)
              have e20_281 : rg_v h279_z 164 20 = cq := (K281.2 20 (by decide)).trans (show rg_v (am_up h267_z 170 31 (.int (rg_v h267_z 164 11))) 164 20 = cq from e20_269)
              replace hm_z : rn _ _ _ _ [.int v281_z] _ _ _ := hm_z
              replace hm_z := rn_if (am_cur_of (i := (116, 3, .ifCond .ne 5, (69, 0, 0), 0)) (by decide +kernel)) hm_z
              rcases hm_z with ⟨b282_z, hm_z⟩ | ⟨b282_z, hm_z⟩
              · replace b282_z : ¬ v281_z = (0 : Int32) ∧ ¬ v281_z.toInt = (0 : Int32).toInt := b282_z
                replace hm_z := rn_aload_n (am_cur_of (i := (121, 1, .aload_n 0, (0, 0, 0), 0)) (by decide +kernel)) g0_z hm_z
                replace hm_z := rn_getR (x := 170) (am_cur_of (i := (122, 3, .getfield 30, (12, 25, 1409), 0)) (by decide +kernel)) (by decide +kernel) hm_z
                replace hm_z := rn_iload_n (am_cur_of (i := (125, 1, .iload_n 1, (0, 0, 0), 0)) (by decide +kernel)) g1_z hm_z
                replace hm_z := rn_iload_n (am_cur_of (i := (126, 1, .iload_n 2, (0, 0, 0), 0)) (by decide +kernel)) g2_z hm_z
                replace hm_z := rn_iadd (w := 32) (am_cur_of (i := (127, 1, .iadd, (0, 0, 0), 0)) (by decide +kernel)) (by decide) hm_z
                replace hm_z := rn_aload_n (am_cur_of (i := (128, 1, .aload_n 0, (0, 0, 0), 0)) (by decide +kernel)) g0_z hm_z
                replace hm_z := rn_getI (v := rg_v h279_z 164 11) (am_cur_of (i := (129, 3, .getfield 188, (12, 11, 1395), 0)) (by decide +kernel)) (by decide +kernel) rfl hm_z
                replace hm_z := rn_iastore (N := 56) (q := 32) (am_cur_of (i := (132, 1, .iastore, (0, 0, 0), 0)) (by decide +kernel)) (by decide +kernel) rfl hm_z
                obtain ⟨p283_z, hm_z⟩ := hm_z
                replace hm_z := rn_iinc (w := 5) (am_cur_of (i := (133, 3, .iinc 2 1, (0, 0, 0), 0)) (by decide +kernel)) g2_z (by decide) hm_z
                obtain ⟨_, s284_z, s285_z, g2_z, hm_z⟩ := hm_z
                replace g0_z := s284_z 0 _ (by decide) rfl g0_z
                replace g1_z := s284_z 1 _ (by decide) rfl g1_z
                replace g3_z := s284_z 3 _ (by decide) rfl g3_z
                replace g4_z := s284_z 4 _ (by decide) rfl g4_z
                clear s284_z s285_z
                replace hm_z := rn_goto (am_cur_of (i := (136, 3, .goto (-87), (29, 0, 0), 0)) (by decide +kernel)) hm_z
                replace hm_z := rn_iload_n (am_cur_of (i := (49, 1, .iload_n 2, (0, 0, 0), 0)) (by decide +kernel)) g2_z hm_z
                replace hm_z := rn_bipush (w := 7) (am_cur_of (i := (50, 2, .bipush 7, (0, 0, 0), 0)) (by decide +kernel)) (by decide) hm_z
                replace hm_z := rn_cmpF (am_cur_of (i := (52, 3, .if_icmp .ge 87, (79, 0, 0), 0)) (by decide +kernel)) (by decide) hm_z
                replace hm_z := rn_iload_n (am_cur_of (i := (55, 1, .iload_n 2, (0, 0, 0), 0)) (by decide +kernel)) g2_z hm_z
                replace hm_z := rn_ifF (am_cur_of (i := (56, 3, .ifCond .eq 13, (40, 0, 0), 0)) (by decide +kernel)) (by decide) hm_z
                replace hm_z := rn_iload_n (am_cur_of (i := (59, 1, .iload_n 2, (0, 0, 0), 0)) (by decide +kernel)) g2_z hm_z
                replace hm_z := rn_iconst (w := 2) (am_cur_of (i := (60, 1, .iconst 2, (0, 0, 0), 0)) (by decide +kernel)) (by decide) hm_z
                replace hm_z := rn_cmpF (am_cur_of (i := (61, 3, .if_icmp .eq 8, (40, 0, 0), 0)) (by decide +kernel)) (by decide) hm_z
                replace hm_z := rn_iload_n (am_cur_of (i := (64, 1, .iload_n 2, (0, 0, 0), 0)) (by decide +kernel)) g2_z hm_z
                replace hm_z := rn_iconst (w := 3) (am_cur_of (i := (65, 1, .iconst 3, (0, 0, 0), 0)) (by decide +kernel)) (by decide) hm_z
                replace hm_z := rn_cmpT (am_cur_of (i := (66, 3, .if_icmp .ne 7, (42, 0, 0), 0)) (by decide +kernel)) (by decide) hm_z
                replace hm_z := rn_iconst (w := 0) (am_cur_of (i := (73, 1, .iconst 0, (0, 0, 0), 0)) (by decide +kernel)) (by decide) hm_z
                replace hm_z := rn_istore_n (am_cur_of (i := (74, 1, .istore_n 3, (0, 0, 0), 0)) (by decide +kernel)) hm_z
                obtain ⟨_, s286_z, s287_z, g3_z, hm_z⟩ := hm_z
                replace g0_z := s286_z 0 _ (by decide) rfl g0_z
                replace g1_z := s286_z 1 _ (by decide) rfl g1_z
                replace g2_z := s286_z 2 _ (by decide) rfl g2_z
                replace g4_z := s286_z 4 _ (by decide) rfl g4_z
                clear s286_z s287_z
                replace hm_z := rn_iload_n (am_cur_of (i := (75, 1, .iload_n 2, (0, 0, 0), 0)) (by decide +kernel)) g2_z hm_z
                replace hm_z := rn_iconst (w := 1) (am_cur_of (i := (76, 1, .iconst 1, (0, 0, 0), 0)) (by decide +kernel)) (by decide) hm_z
                replace hm_z := rn_cmpF (am_cur_of (i := (77, 3, .if_icmp .eq 8, (50, 0, 0), 0)) (by decide +kernel)) (by decide) hm_z
                replace hm_z := rn_iload_n (am_cur_of (i := (80, 1, .iload_n 2, (0, 0, 0), 0)) (by decide +kernel)) g2_z hm_z
                replace hm_z := rn_iconst (w := 2) (am_cur_of (i := (81, 1, .iconst 2, (0, 0, 0), 0)) (by decide +kernel)) (by decide) hm_z
                replace hm_z := rn_cmpT (am_cur_of (i := (82, 3, .if_icmp .ne 8, (52, 0, 0), 0)) (by decide +kernel)) (by decide) hm_z
                replace hm_z := rn_iload_n (am_cur_of (i := (90, 1, .iload_n 2, (0, 0, 0), 0)) (by decide +kernel)) g2_z hm_z
                replace hm_z := rn_iconst (w := 3) (am_cur_of (i := (91, 1, .iconst 3, (0, 0, 0), 0)) (by decide +kernel)) (by decide) hm_z
                replace hm_z := rn_cmpF (am_cur_of (i := (92, 3, .if_icmp .eq 8, (58, 0, 0), 0)) (by decide +kernel)) (by decide) hm_z
                replace hm_z := rn_iload_n (am_cur_of (i := (95, 1, .iload_n 2, (0, 0, 0), 0)) (by decide +kernel)) g2_z hm_z
                replace hm_z := rn_iconst (w := 5) (am_cur_of (i := (96, 1, .iconst 5, (0, 0, 0), 0)) (by decide +kernel)) (by decide) hm_z
                replace hm_z := rn_cmpF (am_cur_of (i := (97, 3, .if_icmp .ne 8, (60, 0, 0), 0)) (by decide +kernel)) (by decide) hm_z
                replace hm_z := rn_bipush (w := 9) (am_cur_of (i := (100, 2, .bipush 9, (0, 0, 0), 0)) (by decide +kernel)) (by decide) hm_z
                replace hm_z := rn_goto (am_cur_of (i := (102, 3, .goto 5, (61, 0, 0), 0)) (by decide +kernel)) hm_z
                replace hm_z := rn_istore (am_cur_of (i := (107, 2, .istore 4, (0, 0, 0), 0)) (by decide +kernel)) hm_z
                obtain ⟨_, s288_z, s289_z, g4_z, hm_z⟩ := hm_z
                replace g0_z := s288_z 0 _ (by decide) rfl g0_z
                replace g1_z := s288_z 1 _ (by decide) rfl g1_z
                replace g2_z := s288_z 2 _ (by decide) rfl g2_z
                replace g3_z := s288_z 3 _ (by decide) rfl g3_z
                clear s288_z s289_z
                replace hm_z := rn_aload_n (am_cur_of (i := (109, 1, .aload_n 0, (0, 0, 0), 0)) (by decide +kernel)) g0_z hm_z
                replace hm_z := rn_iload_n (am_cur_of (i := (110, 1, .iload_n 3, (0, 0, 0), 0)) (by decide +kernel)) g3_z hm_z
                replace hm_z := rn_iload (am_cur_of (i := (111, 2, .iload 4, (0, 0, 0), 0)) (by decide +kernel)) g4_z hm_z
                replace hm_z := rn_callV (M' := am_m161) (o := 164) (ar := [.int 9, .int 0]) (rest := []) (L := lv_args 0 [.ref 164, .int 0, .int 9]) (am_cur_of (i := (113, 3, .invokevirtual 197, (161, 1677, 3), 0)) (by decide +kernel)) rfl rfl rfl rfl hm_z
                obtain ⟨r290_z, h291_z, q292_z, hm_z⟩ := hm_z
                obtain ⟨v293_z, rfl⟩ := rn_ret (M := am_m161) rfl (by decide) q292_z
                have K293 := kp_of (a := 161) (by decide) rfl (as := [.ref 164, .int 0, .int 9]) (ra_Sc (fun _ e => by cases e; rfl) (ra_Sc (ra_Vi) (ra_Sc (ra_Vi) ra_S0))) q292_z
                have z293_z := zM_t (zM_u (o := 170) (k := 32) (by decide) z281_z) K293.1
                have e17_293 : rg_v h291_z 164 17 = 0 := (K293.2 17 (by decide)).trans (show rg_v (am_up h279_z 170 32 (.int (rg_v h279_z 164 11))) 164 17 = 0 from e17_281)
                have e18_293 : rg_v h291_z 164 18 = ct := (K293.2 18 (by decide)).trans (show rg_v (am_up h279_z 170 32 (.int (rg_v h279_z 164 11))) 164 18 = ct from e18_281)
                have e19_293 : rg_v h291_z 164 19 = cl := (K293.2 19 (by decide)).trans (show rg_v (am_up h279_z 170 32 (.int (rg_v h279_z 164 11))) 164 19 = cl from e19_281)
                have e20_293 : rg_v h291_z 164 20 = cq := (K293.2 20 (by decide)).trans (show rg_v (am_up h279_z 170 32 (.int (rg_v h279_z 164 11))) 164 20 = cq from e20_281)
                replace hm_z : rn _ _ _ _ [.int v293_z] _ _ _ := hm_z
                replace hm_z := rn_if (am_cur_of (i := (116, 3, .ifCond .ne 5, (69, 0, 0), 0)) (by decide +kernel)) hm_z
                rcases hm_z with ⟨b294_z, hm_z⟩ | ⟨b294_z, hm_z⟩
                · replace b294_z : ¬ v293_z = (0 : Int32) ∧ ¬ v293_z.toInt = (0 : Int32).toInt := b294_z
                  replace hm_z := rn_aload_n (am_cur_of (i := (121, 1, .aload_n 0, (0, 0, 0), 0)) (by decide +kernel)) g0_z hm_z
                  replace hm_z := rn_getR (x := 170) (am_cur_of (i := (122, 3, .getfield 30, (12, 25, 1409), 0)) (by decide +kernel)) (by decide +kernel) hm_z
                  replace hm_z := rn_iload_n (am_cur_of (i := (125, 1, .iload_n 1, (0, 0, 0), 0)) (by decide +kernel)) g1_z hm_z
                  replace hm_z := rn_iload_n (am_cur_of (i := (126, 1, .iload_n 2, (0, 0, 0), 0)) (by decide +kernel)) g2_z hm_z
                  replace hm_z := rn_iadd (w := 33) (am_cur_of (i := (127, 1, .iadd, (0, 0, 0), 0)) (by decide +kernel)) (by decide) hm_z
                  replace hm_z := rn_aload_n (am_cur_of (i := (128, 1, .aload_n 0, (0, 0, 0), 0)) (by decide +kernel)) g0_z hm_z
                  replace hm_z := rn_getI (v := rg_v h291_z 164 11) (am_cur_of (i := (129, 3, .getfield 188, (12, 11, 1395), 0)) (by decide +kernel)) (by decide +kernel) rfl hm_z
                  replace hm_z := rn_iastore (N := 56) (q := 33) (am_cur_of (i := (132, 1, .iastore, (0, 0, 0), 0)) (by decide +kernel)) (by decide +kernel) rfl hm_z
                  obtain ⟨p295_z, hm_z⟩ := hm_z
                  replace hm_z := rn_iinc (w := 6) (am_cur_of (i := (133, 3, .iinc 2 1, (0, 0, 0), 0)) (by decide +kernel)) g2_z (by decide) hm_z
                  obtain ⟨_, s296_z, s297_z, g2_z, hm_z⟩ := hm_z
                  replace g0_z := s296_z 0 _ (by decide) rfl g0_z
                  replace g1_z := s296_z 1 _ (by decide) rfl g1_z
                  replace g3_z := s296_z 3 _ (by decide) rfl g3_z
                  replace g4_z := s296_z 4 _ (by decide) rfl g4_z
                  clear s296_z s297_z
                  replace hm_z := rn_goto (am_cur_of (i := (136, 3, .goto (-87), (29, 0, 0), 0)) (by decide +kernel)) hm_z
                  replace hm_z := rn_iload_n (am_cur_of (i := (49, 1, .iload_n 2, (0, 0, 0), 0)) (by decide +kernel)) g2_z hm_z
                  replace hm_z := rn_bipush (w := 7) (am_cur_of (i := (50, 2, .bipush 7, (0, 0, 0), 0)) (by decide +kernel)) (by decide) hm_z
                  replace hm_z := rn_cmpF (am_cur_of (i := (52, 3, .if_icmp .ge 87, (79, 0, 0), 0)) (by decide +kernel)) (by decide) hm_z
                  replace hm_z := rn_iload_n (am_cur_of (i := (55, 1, .iload_n 2, (0, 0, 0), 0)) (by decide +kernel)) g2_z hm_z
                  replace hm_z := rn_ifF (am_cur_of (i := (56, 3, .ifCond .eq 13, (40, 0, 0), 0)) (by decide +kernel)) (by decide) hm_z
                  replace hm_z := rn_iload_n (am_cur_of (i := (59, 1, .iload_n 2, (0, 0, 0), 0)) (by decide +kernel)) g2_z hm_z
                  replace hm_z := rn_iconst (w := 2) (am_cur_of (i := (60, 1, .iconst 2, (0, 0, 0), 0)) (by decide +kernel)) (by decide) hm_z
                  replace hm_z := rn_cmpF (am_cur_of (i := (61, 3, .if_icmp .eq 8, (40, 0, 0), 0)) (by decide +kernel)) (by decide) hm_z
                  replace hm_z := rn_iload_n (am_cur_of (i := (64, 1, .iload_n 2, (0, 0, 0), 0)) (by decide +kernel)) g2_z hm_z
                  replace hm_z := rn_iconst (w := 3) (am_cur_of (i := (65, 1, .iconst 3, (0, 0, 0), 0)) (by decide +kernel)) (by decide) hm_z
                  replace hm_z := rn_cmpT (am_cur_of (i := (66, 3, .if_icmp .ne 7, (42, 0, 0), 0)) (by decide +kernel)) (by decide) hm_z
                  replace hm_z := rn_iconst (w := 0) (am_cur_of (i := (73, 1, .iconst 0, (0, 0, 0), 0)) (by decide +kernel)) (by decide) hm_z
                  replace hm_z := rn_istore_n (am_cur_of (i := (74, 1, .istore_n 3, (0, 0, 0), 0)) (by decide +kernel)) hm_z
                  obtain ⟨_, s298_z, s299_z, g3_z, hm_z⟩ := hm_z
                  replace g0_z := s298_z 0 _ (by decide) rfl g0_z
                  replace g1_z := s298_z 1 _ (by decide) rfl g1_z
                  replace g2_z := s298_z 2 _ (by decide) rfl g2_z
                  replace g4_z := s298_z 4 _ (by decide) rfl g4_z
                  clear s298_z s299_z
                  replace hm_z := rn_iload_n (am_cur_of (i := (75, 1, .iload_n 2, (0, 0, 0), 0)) (by decide +kernel)) g2_z hm_z
                  replace hm_z := rn_iconst (w := 1) (am_cur_of (i := (76, 1, .iconst 1, (0, 0, 0), 0)) (by decide +kernel)) (by decide) hm_z
                  replace hm_z := rn_cmpF (am_cur_of (i := (77, 3, .if_icmp .eq 8, (50, 0, 0), 0)) (by decide +kernel)) (by decide) hm_z
                  replace hm_z := rn_iload_n (am_cur_of (i := (80, 1, .iload_n 2, (0, 0, 0), 0)) (by decide +kernel)) g2_z hm_z
                  replace hm_z := rn_iconst (w := 2) (am_cur_of (i := (81, 1, .iconst 2, (0, 0, 0), 0)) (by decide +kernel)) (by decide) hm_z
                  replace hm_z := rn_cmpT (am_cur_of (i := (82, 3, .if_icmp .ne 8, (52, 0, 0), 0)) (by decide +kernel)) (by decide) hm_z
                  replace hm_z := rn_iload_n (am_cur_of (i := (90, 1, .iload_n 2, (0, 0, 0), 0)) (by decide +kernel)) g2_z hm_z
                  replace hm_z := rn_iconst (w := 3) (am_cur_of (i := (91, 1, .iconst 3, (0, 0, 0), 0)) (by decide +kernel)) (by decide) hm_z
                  replace hm_z := rn_cmpF (am_cur_of (i := (92, 3, .if_icmp .eq 8, (58, 0, 0), 0)) (by decide +kernel)) (by decide) hm_z
                  replace hm_z := rn_iload_n (am_cur_of (i := (95, 1, .iload_n 2, (0, 0, 0), 0)) (by decide +kernel)) g2_z hm_z
                  replace hm_z := rn_iconst (w := 5) (am_cur_of (i := (96, 1, .iconst 5, (0, 0, 0), 0)) (by decide +kernel)) (by decide) hm_z
                  replace hm_z := rn_cmpT (am_cur_of (i := (97, 3, .if_icmp .ne 8, (60, 0, 0), 0)) (by decide +kernel)) (by decide) hm_z
                  replace hm_z := rn_bipush (w := 99) (am_cur_of (i := (105, 2, .bipush 99, (0, 0, 0), 0)) (by decide +kernel)) (by decide) hm_z
                  replace hm_z := rn_istore (am_cur_of (i := (107, 2, .istore 4, (0, 0, 0), 0)) (by decide +kernel)) hm_z
                  obtain ⟨_, s300_z, s301_z, g4_z, hm_z⟩ := hm_z
                  replace g0_z := s300_z 0 _ (by decide) rfl g0_z
                  replace g1_z := s300_z 1 _ (by decide) rfl g1_z
                  replace g2_z := s300_z 2 _ (by decide) rfl g2_z
                  replace g3_z := s300_z 3 _ (by decide) rfl g3_z
                  clear s300_z s301_z
                  replace hm_z := rn_aload_n (am_cur_of (i := (109, 1, .aload_n 0, (0, 0, 0), 0)) (by decide +kernel)) g0_z hm_z
                  replace hm_z := rn_iload_n (am_cur_of (i := (110, 1, .iload_n 3, (0, 0, 0), 0)) (by decide +kernel)) g3_z hm_z
                  replace hm_z := rn_iload (am_cur_of (i := (111, 2, .iload 4, (0, 0, 0), 0)) (by decide +kernel)) g4_z hm_z
                  replace hm_z := rn_callV (M' := am_m161) (o := 164) (ar := [.int 99, .int 0]) (rest := []) (L := lv_args 0 [.ref 164, .int 0, .int 99]) (am_cur_of (i := (113, 3, .invokevirtual 197, (161, 1677, 3), 0)) (by decide +kernel)) rfl rfl rfl rfl hm_z
                  obtain ⟨r302_z, h303_z, q304_z, hm_z⟩ := hm_z
                  obtain ⟨v305_z, rfl⟩ := rn_ret (M := am_m161) rfl (by decide) q304_z
                  have K305 := kp_of (a := 161) (by decide) rfl (as := [.ref 164, .int 0, .int 99]) (ra_Sc (fun _ e => by cases e; rfl) (ra_Sc (ra_Vi) (ra_Sc (ra_Vi) ra_S0))) q304_z
                  have z305_z := zM_t (zM_u (o := 170) (k := 33) (by decide) z293_z) K305.1
                  have e17_305 : rg_v h303_z 164 17 = 0 := (K305.2 17 (by decide)).trans (show rg_v (am_up h291_z 170 33 (.int (rg_v h291_z 164 11))) 164 17 = 0 from e17_293)
                  have e18_305 : rg_v h303_z 164 18 = ct := (K305.2 18 (by decide)).trans (show rg_v (am_up h291_z 170 33 (.int (rg_v h291_z 164 11))) 164 18 = ct from e18_293)
                  have e19_305 : rg_v h303_z 164 19 = cl := (K305.2 19 (by decide)).trans (show rg_v (am_up h291_z 170 33 (.int (rg_v h291_z 164 11))) 164 19 = cl from e19_293)
                  have e20_305 : rg_v h303_z 164 20 = cq := (K305.2 20 (by decide)).trans (show rg_v (am_up h291_z 170 33 (.int (rg_v h291_z 164 11))) 164 20 = cq from e20_293)
                  replace hm_z : rn _ _ _ _ [.int v305_z] _ _ _ := hm_z
                  replace hm_z := rn_if (am_cur_of (i := (116, 3, .ifCond .ne 5, (69, 0, 0), 0)) (by decide +kernel)) hm_z
                  rcases hm_z with ⟨b306_z, hm_z⟩ | ⟨b306_z, hm_z⟩
                  · replace b306_z : ¬ v305_z = (0 : Int32) ∧ ¬ v305_z.toInt = (0 : Int32).toInt := b306_z
                    replace hm_z := rn_aload_n (am_cur_of (i := (121, 1, .aload_n 0, (0, 0, 0), 0)) (by decide +kernel)) g0_z hm_z
                    replace hm_z := rn_getR (x := 170) (am_cur_of (i := (122, 3, .getfield 30, (12, 25, 1409), 0)) (by decide +kernel)) (by decide +kernel) hm_z
                    replace hm_z := rn_iload_n (am_cur_of (i := (125, 1, .iload_n 1, (0, 0, 0), 0)) (by decide +kernel)) g1_z hm_z
                    replace hm_z := rn_iload_n (am_cur_of (i := (126, 1, .iload_n 2, (0, 0, 0), 0)) (by decide +kernel)) g2_z hm_z
                    replace hm_z := rn_iadd (w := 34) (am_cur_of (i := (127, 1, .iadd, (0, 0, 0), 0)) (by decide +kernel)) (by decide) hm_z
                    replace hm_z := rn_aload_n (am_cur_of (i := (128, 1, .aload_n 0, (0, 0, 0), 0)) (by decide +kernel)) g0_z hm_z
                    replace hm_z := rn_getI (v := rg_v h303_z 164 11) (am_cur_of (i := (129, 3, .getfield 188, (12, 11, 1395), 0)) (by decide +kernel)) (by decide +kernel) rfl hm_z
                    replace hm_z := rn_iastore (N := 56) (q := 34) (am_cur_of (i := (132, 1, .iastore, (0, 0, 0), 0)) (by decide +kernel)) (by decide +kernel) rfl hm_z
                    obtain ⟨p307_z, hm_z⟩ := hm_z
                    replace hm_z := rn_iinc (w := 7) (am_cur_of (i := (133, 3, .iinc 2 1, (0, 0, 0), 0)) (by decide +kernel)) g2_z (by decide) hm_z
                    obtain ⟨_, s308_z, s309_z, g2_z, hm_z⟩ := hm_z
                    replace g0_z := s308_z 0 _ (by decide) rfl g0_z
                    replace g1_z := s308_z 1 _ (by decide) rfl g1_z
                    replace g3_z := s308_z 3 _ (by decide) rfl g3_z
                    replace g4_z := s308_z 4 _ (by decide) rfl g4_z
                    clear s308_z s309_z
                    replace hm_z := rn_goto (am_cur_of (i := (136, 3, .goto (-87), (29, 0, 0), 0)) (by decide +kernel)) hm_z
                    replace hm_z := rn_iload_n (am_cur_of (i := (49, 1, .iload_n 2, (0, 0, 0), 0)) (by decide +kernel)) g2_z hm_z
                    replace hm_z := rn_bipush (w := 7) (am_cur_of (i := (50, 2, .bipush 7, (0, 0, 0), 0)) (by decide +kernel)) (by decide) hm_z
                    replace hm_z := rn_cmpT (am_cur_of (i := (52, 3, .if_icmp .ge 87, (79, 0, 0), 0)) (by decide +kernel)) (by decide) hm_z
                    replace hm_z := rn_aload_n (am_cur_of (i := (139, 1, .aload_n 0, (0, 0, 0), 0)) (by decide +kernel)) g0_z hm_z
                    replace hm_z := rn_dup (am_cur_of (i := (140, 1, .dup, (0, 0, 0), 0)) (by decide +kernel)) hm_z
                    replace hm_z := rn_getI (v := 0) (am_cur_of (i := (141, 3, .getfield 201, (12, 17, 1401), 0)) (by decide +kernel)) (by decide +kernel) (show rg_v (am_up h303_z 170 34 (.int (rg_v h303_z 164 11))) 164 17 = 0 from e17_305) hm_z
                    replace hm_z := rn_iconst (w := 1) (am_cur_of (i := (144, 1, .iconst 1, (0, 0, 0), 0)) (by decide +kernel)) (by decide) hm_z
                    replace hm_z := rn_iadd (w := 1) (am_cur_of (i := (145, 1, .iadd, (0, 0, 0), 0)) (by decide +kernel)) (by decide) hm_z
                    replace hm_z := rn_put (am_cur_of (i := (146, 3, .putfield 201, (12, 17, 1401), 0)) (by decide +kernel)) (by decide +kernel) hm_z
                    replace hm_z := rn_iconst (w := 1) (am_cur_of (i := (149, 1, .iconst 1, (0, 0, 0), 0)) (by decide +kernel)) (by decide) hm_z
                    replace hm_z := rn_iret (am_cur_of (i := (150, 1, .ireturn, (0, 0, 0), 0)) (by decide +kernel)) hm_z
                    obtain ⟨e310_z, e311_z⟩ := hm_z
                    rw [e311_z]
                    exact ⟨(zM_u (o := 164) (k := 17) (by decide) (zM_u (o := 170) (k := 34) (by decide) z305_z)), ⟨by rw [show rg_v (am_up (am_up h303_z 170 34 (.int (rg_v h303_z 164 11))) 164 17 (.int 1)) 164 17 = 1 from (show rg_v (am_up (am_up h303_z 170 34 (.int (rg_v h303_z 164 11))) 164 17 (.int 1)) 164 17 = 1 from rfl)]; omega, by rw [show rg_v (am_up (am_up h303_z 170 34 (.int (rg_v h303_z 164 11))) 164 17 (.int 1)) 164 17 = 1 from (show rg_v (am_up (am_up h303_z 170 34 (.int (rg_v h303_z 164 11))) 164 17 (.int 1)) 164 17 = 1 from rfl)]; omega⟩, ⟨by rw [show rg_v (am_up (am_up h303_z 170 34 (.int (rg_v h303_z 164 11))) 164 17 (.int 1)) 164 18 = ct from (show rg_v (am_up (am_up h303_z 170 34 (.int (rg_v h303_z 164 11))) 164 17 (.int 1)) 164 18 = ct from e18_305)]; omega, by rw [show rg_v (am_up (am_up h303_z 170 34 (.int (rg_v h303_z 164 11))) 164 17 (.int 1)) 164 18 = ct from (show rg_v (am_up (am_up h303_z 170 34 (.int (rg_v h303_z 164 11))) 164 17 (.int 1)) 164 18 = ct from e18_305)]; omega⟩, ⟨by rw [show rg_v (am_up (am_up h303_z 170 34 (.int (rg_v h303_z 164 11))) 164 17 (.int 1)) 164 19 = cl from (show rg_v (am_up (am_up h303_z 170 34 (.int (rg_v h303_z 164 11))) 164 17 (.int 1)) 164 19 = cl from e19_305)]; omega, by rw [show rg_v (am_up (am_up h303_z 170 34 (.int (rg_v h303_z 164 11))) 164 17 (.int 1)) 164 19 = cl from (show rg_v (am_up (am_up h303_z 170 34 (.int (rg_v h303_z 164 11))) 164 17 (.int 1)) 164 19 = cl from e19_305)]; omega⟩, ⟨by rw [show rg_v (am_up (am_up h303_z 170 34 (.int (rg_v h303_z 164 11))) 164 17 (.int 1)) 164 20 = cq from (show rg_v (am_up (am_up h303_z 170 34 (.int (rg_v h303_z 164 11))) 164 17 (.int 1)) 164 20 = cq from e20_305)]; omega, by rw [show rg_v (am_up (am_up h303_z 170 34 (.int (rg_v h303_z 164 11))) 164 17 (.int 1)) 164 20 = cq from (show rg_v (am_up (am_up h303_z 170 34 (.int (rg_v h303_z 164 11))) 164 17 (.int 1)) 164 20 = cq from e20_305)]; omega⟩⟩
                  · replace b306_z : v305_z = (0 : Int32) ∧ v305_z.toInt = (0 : Int32).toInt := b306_z
                    replace hm_z := rn_iconst (w := 0) (am_cur_of (i := (119, 1, .iconst 0, (0, 0, 0), 0)) (by decide +kernel)) (by decide) hm_z
                    replace hm_z := rn_iret (am_cur_of (i := (120, 1, .ireturn, (0, 0, 0), 0)) (by decide +kernel)) hm_z
                    obtain ⟨e312_z, e313_z⟩ := hm_z
                    rw [e313_z]
                    exact ⟨z305_z, ⟨by rw [show rg_v h303_z 164 17 = 0 from e17_305]; omega, by rw [show rg_v h303_z 164 17 = 0 from e17_305]; omega⟩, ⟨by rw [show rg_v h303_z 164 18 = ct from e18_305]; omega, by rw [show rg_v h303_z 164 18 = ct from e18_305]; omega⟩, ⟨by rw [show rg_v h303_z 164 19 = cl from e19_305]; omega, by rw [show rg_v h303_z 164 19 = cl from e19_305]; omega⟩, ⟨by rw [show rg_v h303_z 164 20 = cq from e20_305]; omega, by rw [show rg_v h303_z 164 20 = cq from e20_305]; omega⟩⟩
                · replace b294_z : v293_z = (0 : Int32) ∧ v293_z.toInt = (0 : Int32).toInt := b294_z
                  replace hm_z := rn_iconst (w := 0) (am_cur_of (i := (119, 1, .iconst 0, (0, 0, 0), 0)) (by decide +kernel)) (by decide) hm_z
                  replace hm_z := rn_iret (am_cur_of (i := (120, 1, .ireturn, (0, 0, 0), 0)) (by decide +kernel)) hm_z
                  obtain ⟨e314_z, e315_z⟩ := hm_z
                  rw [e315_z]
                  exact ⟨z293_z, ⟨by rw [show rg_v h291_z 164 17 = 0 from e17_293]; omega, by rw [show rg_v h291_z 164 17 = 0 from e17_293]; omega⟩, ⟨by rw [show rg_v h291_z 164 18 = ct from e18_293]; omega, by rw [show rg_v h291_z 164 18 = ct from e18_293]; omega⟩, ⟨by rw [show rg_v h291_z 164 19 = cl from e19_293]; omega, by rw [show rg_v h291_z 164 19 = cl from e19_293]; omega⟩, ⟨by rw [show rg_v h291_z 164 20 = cq from e20_293]; omega, by rw [show rg_v h291_z 164 20 = cq from e20_293]; omega⟩⟩
              · replace b282_z : v281_z = (0 : Int32) ∧ v281_z.toInt = (0 : Int32).toInt := b282_z
                replace hm_z := rn_iconst (w := 0) (am_cur_of (i := (119, 1, .iconst 0, (0, 0, 0), 0)) (by decide +kernel)) (by decide) hm_z
                replace hm_z := rn_iret (am_cur_of (i := (120, 1, .ireturn, (0, 0, 0), 0)) (by decide +kernel)) hm_z
                obtain ⟨e316_z, e317_z⟩ := hm_z
                rw [e317_z]
                exact ⟨z281_z, ⟨by rw [show rg_v h279_z 164 17 = 0 from e17_281]; omega, by rw [show rg_v h279_z 164 17 = 0 from e17_281]; omega⟩, ⟨by rw [show rg_v h279_z 164 18 = ct from e18_281]; omega, by rw [show rg_v h279_z 164 18 = ct from e18_281]; omega⟩, ⟨by rw [show rg_v h279_z 164 19 = cl from e19_281]; omega, by rw [show rg_v h279_z 164 19 = cl from e19_281]; omega⟩, ⟨by rw [show rg_v h279_z 164 20 = cq from e20_281]; omega, by rw [show rg_v h279_z 164 20 = cq from e20_281]; omega⟩⟩
            · replace b270_z : v269_z = (0 : Int32) ∧ v269_z.toInt = (0 : Int32).toInt := b270_z
              replace hm_z := rn_iconst (w := 0) (am_cur_of (i := (119, 1, .iconst 0, (0, 0, 0), 0)) (by decide +kernel)) (by decide) hm_z
              replace hm_z := rn_iret (am_cur_of (i := (120, 1, .ireturn, (0, 0, 0), 0)) (by decide +kernel)) hm_z
              obtain ⟨e318_z, e319_z⟩ := hm_z
              rw [e319_z]
              exact ⟨z269_z, ⟨by rw [show rg_v h267_z 164 17 = 0 from e17_269]; omega, by rw [show rg_v h267_z 164 17 = 0 from e17_269]; omega⟩, ⟨by rw [show rg_v h267_z 164 18 = ct from e18_269]; omega, by rw [show rg_v h267_z 164 18 = ct from e18_269]; omega⟩, ⟨by rw [show rg_v h267_z 164 19 = cl from e19_269]; omega, by rw [show rg_v h267_z 164 19 = cl from e19_269]; omega⟩, ⟨by rw [show rg_v h267_z 164 20 = cq from e20_269]; omega, by rw [show rg_v h267_z 164 20 = cq from e20_269]; omega⟩⟩
          · replace b258_z : v257_z = (0 : Int32) ∧ v257_z.toInt = (0 : Int32).toInt := b258_z
            replace hm_z := rn_iconst (w := 0) (am_cur_of (i := (119, 1, .iconst 0, (0, 0, 0), 0)) (by decide +kernel)) (by decide) hm_z
            replace hm_z := rn_iret (am_cur_of (i := (120, 1, .ireturn, (0, 0, 0), 0)) (by decide +kernel)) hm_z
            obtain ⟨e320_z, e321_z⟩ := hm_z
            rw [e321_z]
            exact ⟨z257_z, ⟨by rw [show rg_v h255_z 164 17 = 0 from e17_257]; omega, by rw [show rg_v h255_z 164 17 = 0 from e17_257]; omega⟩, ⟨by rw [show rg_v h255_z 164 18 = ct from e18_257]; omega, by rw [show rg_v h255_z 164 18 = ct from e18_257]; omega⟩, ⟨by rw [show rg_v h255_z 164 19 = cl from e19_257]; omega, by rw [show rg_v h255_z 164 19 = cl from e19_257]; omega⟩, ⟨by rw [show rg_v h255_z 164 20 = cq from e20_257]; omega, by rw [show rg_v h255_z 164 20 = cq from e20_257]; omega⟩⟩
        · replace b246_z : v245_z = (0 : Int32) ∧ v245_z.toInt = (0 : Int32).toInt := b246_z
          replace hm_z := rn_iconst (w := 0) (am_cur_of (i := (119, 1, .iconst 0, (0, 0, 0), 0)) (by decide +kernel)) (by decide) hm_z
          replace hm_z := rn_iret (am_cur_of (i := (120, 1, .ireturn, (0, 0, 0), 0)) (by decide +kernel)) hm_z
          obtain ⟨e322_z, e323_z⟩ := hm_z
          rw [e323_z]
          exact ⟨z245_z, ⟨by rw [show rg_v h243_z 164 17 = 0 from e17_245]; omega, by rw [show rg_v h243_z 164 17 = 0 from e17_245]; omega⟩, ⟨by rw [show rg_v h243_z 164 18 = ct from e18_245]; omega, by rw [show rg_v h243_z 164 18 = ct from e18_245]; omega⟩, ⟨by rw [show rg_v h243_z 164 19 = cl from e19_245]; omega, by rw [show rg_v h243_z 164 19 = cl from e19_245]; omega⟩, ⟨by rw [show rg_v h243_z 164 20 = cq from e20_245]; omega, by rw [show rg_v h243_z 164 20 = cq from e20_245]; omega⟩⟩
      · replace b234_z : v233_z = (0 : Int32) ∧ v233_z.toInt = (0 : Int32).toInt := b234_z
        replace hm_z := rn_iconst (w := 0) (am_cur_of (i := (119, 1, .iconst 0, (0, 0, 0), 0)) (by decide +kernel)) (by decide) hm_z
        replace hm_z := rn_iret (am_cur_of (i := (120, 1, .ireturn, (0, 0, 0), 0)) (by decide +kernel)) hm_z
        obtain ⟨e324_z, e325_z⟩ := hm_z
        rw [e325_z]
        exact ⟨z233_z, ⟨by rw [show rg_v h231_z 164 17 = 0 from e17_233]; omega, by rw [show rg_v h231_z 164 17 = 0 from e17_233]; omega⟩, ⟨by rw [show rg_v h231_z 164 18 = ct from e18_233]; omega, by rw [show rg_v h231_z 164 18 = ct from e18_233]; omega⟩, ⟨by rw [show rg_v h231_z 164 19 = cl from e19_233]; omega, by rw [show rg_v h231_z 164 19 = cl from e19_233]; omega⟩, ⟨by rw [show rg_v h231_z 164 20 = cq from e20_233]; omega, by rw [show rg_v h231_z 164 20 = cq from e20_233]; omega⟩⟩
    · replace b221_z : v220_z = (0 : Int32) ∧ v220_z.toInt = (0 : Int32).toInt := b221_z
      replace hm_z := rn_iconst (w := 0) (am_cur_of (i := (34, 1, .iconst 0, (0, 0, 0), 0)) (by decide +kernel)) (by decide) hm_z
      replace hm_z := rn_iret (am_cur_of (i := (35, 1, .ireturn, (0, 0, 0), 0)) (by decide +kernel)) hm_z
      obtain ⟨e326_z, e327_z⟩ := hm_z
      rw [e327_z]
      exact ⟨z220_z, ⟨by rw [show rg_v h218_z 164 17 = 0 from e17_220]; omega, by rw [show rg_v h218_z 164 17 = 0 from e17_220]; omega⟩, ⟨by rw [show rg_v h218_z 164 18 = ct from e18_220]; omega, by rw [show rg_v h218_z 164 18 = ct from e18_220]; omega⟩, ⟨by rw [show rg_v h218_z 164 19 = cl from e19_220]; omega, by rw [show rg_v h218_z 164 19 = cl from e19_220]; omega⟩, ⟨by rw [show rg_v h218_z 164 20 = cq from e20_220]; omega, by rw [show rg_v h218_z 164 20 = cq from e20_220]; omega⟩⟩
  · replace hm_z := rn_aload_n (am_cur_of (i := (0, 1, .aload_n 0, (0, 0, 0), 0)) (by decide +kernel)) g0_z hm_z
    replace hm_z := rn_getI (v := 1) (am_cur_of (i := (1, 3, .getfield 201, (12, 17, 1401), 0)) (by decide +kernel)) (by decide +kernel) ecb hm_z
    replace hm_z := rn_iconst (w := 4) (am_cur_of (i := (4, 1, .iconst 4, (0, 0, 0), 0)) (by decide +kernel)) (by decide) hm_z
    replace hm_z := rn_cmpT (am_cur_of (i := (5, 3, .if_icmp .ne 9, (8, 0, 0), 0)) (by decide +kernel)) (by decide) hm_z
    replace hm_z := rn_aload_n (am_cur_of (i := (14, 1, .aload_n 0, (0, 0, 0), 0)) (by decide +kernel)) g0_z hm_z
    replace hm_z := rn_callV (M' := am_m151) (o := 164) (ar := []) (rest := []) (L := lv_args 0 [.ref 164]) (am_cur_of (i := (15, 3, .invokevirtual 191, (151, 1636, 3), 0)) (by decide +kernel)) rfl rfl rfl rfl hm_z
    obtain ⟨r328_z, h329_z, q330_z, hm_z⟩ := hm_z
    have vo := rn_void rfl q330_z
    subst vo
    have K331 := kp_of (a := 151) (by decide) rfl (as := [.ref 164]) (ra_Sc (fun _ e => by cases e; rfl) ra_S0) q330_z
    have z331_z := zM_t zM_r K331.1
    have e17_331 : rg_v h329_z 164 17 = 1 := (K331.2 17 (by decide)).trans ecb
    have e18_331 : rg_v h329_z 164 18 = ct := (K331.2 18 (by decide)).trans ect
    have e19_331 : rg_v h329_z 164 19 = cl := (K331.2 19 (by decide)).trans ecl
    have e20_331 : rg_v h329_z 164 20 = cq := (K331.2 20 (by decide)).trans ecq
    replace hm_z : rn _ _ _ _ [] _ _ _ := hm_z
    replace hm_z := rn_aload_n (am_cur_of (i := (18, 1, .aload_n 0, (0, 0, 0), 0)) (by decide +kernel)) g0_z hm_z
    replace hm_z := rn_aload_n (am_cur_of (i := (19, 1, .aload_n 0, (0, 0, 0), 0)) (by decide +kernel)) g0_z hm_z
    replace hm_z := rn_getR (x := 169) (am_cur_of (i := (20, 3, .getfield 27, (12, 24, 1408), 0)) (by decide +kernel)) (by decide +kernel) hm_z
    replace hm_z := rn_iconst (w := 4) (am_cur_of (i := (23, 1, .iconst 4, (0, 0, 0), 0)) (by decide +kernel)) (by decide) hm_z
    replace hm_z := rn_aload_n (am_cur_of (i := (24, 1, .aload_n 0, (0, 0, 0), 0)) (by decide +kernel)) g0_z hm_z
    replace hm_z := rn_getI (v := 1) (am_cur_of (i := (25, 3, .getfield 201, (12, 17, 1401), 0)) (by decide +kernel)) (by decide +kernel) e17_331 hm_z
    replace hm_z := rn_callV (M' := am_m164) (o := 164) (ar := [.int 1, .int 4, .ref 169]) (rest := []) (L := lv_args 0 [.ref 164, .ref 169, .int 4, .int 1]) (am_cur_of (i := (28, 3, .invokevirtual 248, (164, 1688, 3), 0)) (by decide +kernel)) rfl rfl rfl rfl hm_z
    obtain ⟨r332_z, h333_z, q334_z, hm_z⟩ := hm_z
    obtain ⟨v335_z, rfl⟩ := rn_ret (M := am_m164) rfl (by decide) q334_z
    obtain ⟨aK335, bK335, cK335, dK335, fK335⟩ := mz_newB (by omega) (by omega) q334_z
    have K335 : zM _ _ ∧ ∀ k, (k = 17 ∨ k = 18 ∨ k = 19 ∨ k = 20) → rg_v _ 164 k = rg_v _ 164 k := ⟨aK335, fun k hk_z => by rcases hk_z with rfl | rfl | rfl | rfl <;> assumption⟩
    have z335_z := zM_t z331_z K335.1
    have e17_335 : rg_v h333_z 164 17 = 1 := (K335.2 17 (by decide)).trans e17_331
    have e18_335 : rg_v h333_z 164 18 = ct := (K335.2 18 (by decide)).trans e18_331
    have e19_335 : rg_v h333_z 164 19 = cl := (K335.2 19 (by decide)).trans e19_331
    have e20_335 : rg_v h333_z 164 20 = cq := (K335.2 20 (by decide)).trans e20_331
    replace hm_z : rn _ _ _ _ [.int v335_z] _ _ _ := hm_z
    replace hm_z := rn_if (am_cur_of (i := (31, 3, .ifCond .ne 5, (20, 0, 0), 0)) (by decide +kernel)) hm_z
    rcases hm_z with ⟨b336_z, hm_z⟩ | ⟨b336_z, hm_z⟩
    · replace b336_z : ¬ v335_z = (0 : Int32) ∧ ¬ v335_z.toInt = (0 : Int32).toInt := b336_z
      replace hm_z := rn_bipush (w := 28) (am_cur_of (i := (36, 2, .bipush 28, (0, 0, 0), 0)) (by decide +kernel)) (by decide) hm_z
      replace hm_z := rn_bipush (w := 7) (am_cur_of (i := (38, 2, .bipush 7, (0, 0, 0), 0)) (by decide +kernel)) (by decide) hm_z
      replace hm_z := rn_aload_n (am_cur_of (i := (40, 1, .aload_n 0, (0, 0, 0), 0)) (by decide +kernel)) g0_z hm_z
      replace hm_z := rn_getI (v := 1) (am_cur_of (i := (41, 3, .getfield 201, (12, 17, 1401), 0)) (by decide +kernel)) (by decide +kernel) e17_335 hm_z
      replace hm_z := rn_imul (w := 7) (am_cur_of (i := (44, 1, .imul, (0, 0, 0), 0)) (by decide +kernel)) (by decide) hm_z
      replace hm_z := rn_iadd (w := 35) (am_cur_of (i := (45, 1, .iadd, (0, 0, 0), 0)) (by decide +kernel)) (by decide) hm_z
      replace hm_z := rn_istore_n (am_cur_of (i := (46, 1, .istore_n 1, (0, 0, 0), 0)) (by decide +kernel)) hm_z
      obtain ⟨_, s337_z, s338_z, g1_z, hm_z⟩ := hm_z
      replace g0_z := s337_z 0 _ (by decide) rfl g0_z
      clear s337_z s338_z
      replace hm_z := rn_iconst (w := 0) (am_cur_of (i := (47, 1, .iconst 0, (0, 0, 0), 0)) (by decide +kernel)) (by decide) hm_z
      replace hm_z := rn_istore_n (am_cur_of (i := (48, 1, .istore_n 2, (0, 0, 0), 0)) (by decide +kernel)) hm_z
      obtain ⟨_, s339_z, s340_z, g2_z, hm_z⟩ := hm_z
      replace g0_z := s339_z 0 _ (by decide) rfl g0_z
      replace g1_z := s339_z 1 _ (by decide) rfl g1_z
      clear s339_z s340_z
      replace hm_z := rn_iload_n (am_cur_of (i := (49, 1, .iload_n 2, (0, 0, 0), 0)) (by decide +kernel)) g2_z hm_z
      replace hm_z := rn_bipush (w := 7) (am_cur_of (i := (50, 2, .bipush 7, (0, 0, 0), 0)) (by decide +kernel)) (by decide) hm_z
      replace hm_z := rn_cmpF (am_cur_of (i := (52, 3, .if_icmp .ge 87, (79, 0, 0), 0)) (by decide +kernel)) (by decide) hm_z
      replace hm_z := rn_iload_n (am_cur_of (i := (55, 1, .iload_n 2, (0, 0, 0), 0)) (by decide +kernel)) g2_z hm_z
      replace hm_z := rn_ifT (am_cur_of (i := (56, 3, .ifCond .eq 13, (40, 0, 0), 0)) (by decide +kernel)) (by decide) hm_z
      replace hm_z := rn_iconst (w := 1) (am_cur_of (i := (69, 1, .iconst 1, (0, 0, 0), 0)) (by decide +kernel)) (by decide) hm_z
      replace hm_z := rn_goto (am_cur_of (i := (70, 3, .goto 4, (43, 0, 0), 0)) (by decide +kernel)) hm_z
      replace hm_z := rn_istore_n (am_cur_of (i := (74, 1, .istore_n 3, (0, 0, 0), 0)) (by decide +kernel)) hm_z
      obtain ⟨_, s341_z, s342_z, g3_z, hm_z⟩ := hm_z
      replace g0_z := s341_z 0 _ (by decide) rfl g0_z
      replace g1_z := s341_z 1 _ (by decide) rfl g1_z
      replace g2_z := s341_z 2 _ (by decide) rfl g2_z
      clear s341_z s342_z
      replace hm_z := rn_iload_n (am_cur_of (i := (75, 1, .iload_n 2, (0, 0, 0), 0)) (by decide +kernel)) g2_z hm_z
      replace hm_z := rn_iconst (w := 1) (am_cur_of (i := (76, 1, .iconst 1, (0, 0, 0), 0)) (by decide +kernel)) (by decide) hm_z
      replace hm_z := rn_cmpF (am_cur_of (i := (77, 3, .if_icmp .eq 8, (50, 0, 0), 0)) (by decide +kernel)) (by decide) hm_z
      replace hm_z := rn_iload_n (am_cur_of (i := (80, 1, .iload_n 2, (0, 0, 0), 0)) (by decide +kernel)) g2_z hm_z
      replace hm_z := rn_iconst (w := 2) (am_cur_of (i := (81, 1, .iconst 2, (0, 0, 0), 0)) (by decide +kernel)) (by decide) hm_z
      replace hm_z := rn_cmpT (am_cur_of (i := (82, 3, .if_icmp .ne 8, (52, 0, 0), 0)) (by decide +kernel)) (by decide) hm_z
      replace hm_z := rn_iload_n (am_cur_of (i := (90, 1, .iload_n 2, (0, 0, 0), 0)) (by decide +kernel)) g2_z hm_z
      replace hm_z := rn_iconst (w := 3) (am_cur_of (i := (91, 1, .iconst 3, (0, 0, 0), 0)) (by decide +kernel)) (by decide) hm_z
      replace hm_z := rn_cmpF (am_cur_of (i := (92, 3, .if_icmp .eq 8, (58, 0, 0), 0)) (by decide +kernel)) (by decide) hm_z
      replace hm_z := rn_iload_n (am_cur_of (i := (95, 1, .iload_n 2, (0, 0, 0), 0)) (by decide +kernel)) g2_z hm_z
      replace hm_z := rn_iconst (w := 5) (am_cur_of (i := (96, 1, .iconst 5, (0, 0, 0), 0)) (by decide +kernel)) (by decide) hm_z
      replace hm_z := rn_cmpT (am_cur_of (i := (97, 3, .if_icmp .ne 8, (60, 0, 0), 0)) (by decide +kernel)) (by decide) hm_z
      replace hm_z := rn_bipush (w := 99) (am_cur_of (i := (105, 2, .bipush 99, (0, 0, 0), 0)) (by decide +kernel)) (by decide) hm_z
      replace hm_z := rn_istore (am_cur_of (i := (107, 2, .istore 4, (0, 0, 0), 0)) (by decide +kernel)) hm_z
      obtain ⟨_, s343_z, s344_z, g4_z, hm_z⟩ := hm_z
      replace g0_z := s343_z 0 _ (by decide) rfl g0_z
      replace g1_z := s343_z 1 _ (by decide) rfl g1_z
      replace g2_z := s343_z 2 _ (by decide) rfl g2_z
      replace g3_z := s343_z 3 _ (by decide) rfl g3_z
      clear s343_z s344_z
      replace hm_z := rn_aload_n (am_cur_of (i := (109, 1, .aload_n 0, (0, 0, 0), 0)) (by decide +kernel)) g0_z hm_z
      replace hm_z := rn_iload_n (am_cur_of (i := (110, 1, .iload_n 3, (0, 0, 0), 0)) (by decide +kernel)) g3_z hm_z
      replace hm_z := rn_iload (am_cur_of (i := (111, 2, .iload 4, (0, 0, 0), 0)) (by decide +kernel)) g4_z hm_z
      replace hm_z := rn_callV (M' := am_m161) (o := 164) (ar := [.int 99, .int 1]) (rest := []) (L := lv_args 0 [.ref 164, .int 1, .int 99]) (am_cur_of (i := (113, 3, .invokevirtual 197, (161, 1677, 3), 0)) (by decide +kernel)) rfl rfl rfl rfl hm_z
      obtain ⟨r345_z, h346_z, q347_z, hm_z⟩ := hm_z
      obtain ⟨v348_z, rfl⟩ := rn_ret (M := am_m161) rfl (by decide) q347_z
      have K348 := kp_of (a := 161) (by decide) rfl (as := [.ref 164, .int 1, .int 99]) (ra_Sc (fun _ e => by cases e; rfl) (ra_Sc (ra_Vi) (ra_Sc (ra_Vi) ra_S0))) q347_z
      have z348_z := zM_t z335_z K348.1
      have e17_348 : rg_v h346_z 164 17 = 1 := (K348.2 17 (by decide)).trans e17_335
      have e18_348 : rg_v h346_z 164 18 = ct := (K348.2 18 (by decide)).trans e18_335
      have e19_348 : rg_v h346_z 164 19 = cl := (K348.2 19 (by decide)).trans e19_335
      have e20_348 : rg_v h346_z 164 20 = cq := (K348.2 20 (by decide)).trans e20_335
      replace hm_z : rn _ _ _ _ [.int v348_z] _ _ _ := hm_z
      replace hm_z := rn_if (am_cur_of (i := (116, 3, .ifCond .ne 5, (69, 0, 0), 0)) (by decide +kernel)) hm_z
      rcases hm_z with ⟨b349_z, hm_z⟩ | ⟨b349_z, hm_z⟩
      · replace b349_z : ¬ v348_z = (0 : Int32) ∧ ¬ v348_z.toInt = (0 : Int32).toInt := b349_z
        replace hm_z := rn_aload_n (am_cur_of (i := (121, 1, .aload_n 0, (0, 0, 0), 0)) (by decide +kernel)) g0_z hm_z
        replace hm_z := rn_getR (x := 170) (am_cur_of (i := (122, 3, .getfield 30, (12, 25, 1409), 0)) (by decide +kernel)) (by decide +kernel) hm_z
        replace hm_z := rn_iload_n (am_cur_of (i := (125, 1, .iload_n 1, (0, 0, 0), 0)) (by decide +kernel)) g1_z hm_z
        replace hm_z := rn_iload_n (am_cur_of (i := (126, 1, .iload_n 2, (0, 0, 0), 0)) (by decide +kernel)) g2_z hm_z
        replace hm_z := rn_iadd (w := 35) (am_cur_of (i := (127, 1, .iadd, (0, 0, 0), 0)) (by decide +kernel)) (by decide) hm_z
        replace hm_z := rn_aload_n (am_cur_of (i := (128, 1, .aload_n 0, (0, 0, 0), 0)) (by decide +kernel)) g0_z hm_z
        replace hm_z := rn_getI (v := rg_v h346_z 164 11) (am_cur_of (i := (129, 3, .getfield 188, (12, 11, 1395), 0)) (by decide +kernel)) (by decide +kernel) rfl hm_z
        replace hm_z := rn_iastore (N := 56) (q := 35) (am_cur_of (i := (132, 1, .iastore, (0, 0, 0), 0)) (by decide +kernel)) (by decide +kernel) rfl hm_z
        obtain ⟨p350_z, hm_z⟩ := hm_z
        replace hm_z := rn_iinc (w := 1) (am_cur_of (i := (133, 3, .iinc 2 1, (0, 0, 0), 0)) (by decide +kernel)) g2_z (by decide) hm_z
        obtain ⟨_, s351_z, s352_z, g2_z, hm_z⟩ := hm_z
        replace g0_z := s351_z 0 _ (by decide) rfl g0_z
        replace g1_z := s351_z 1 _ (by decide) rfl g1_z
        replace g3_z := s351_z 3 _ (by decide) rfl g3_z
        replace g4_z := s351_z 4 _ (by decide) rfl g4_z
        clear s351_z s352_z
        replace hm_z := rn_goto (am_cur_of (i := (136, 3, .goto (-87), (29, 0, 0), 0)) (by decide +kernel)) hm_z
        replace hm_z := rn_iload_n (am_cur_of (i := (49, 1, .iload_n 2, (0, 0, 0), 0)) (by decide +kernel)) g2_z hm_z
        replace hm_z := rn_bipush (w := 7) (am_cur_of (i := (50, 2, .bipush 7, (0, 0, 0), 0)) (by decide +kernel)) (by decide) hm_z
        replace hm_z := rn_cmpF (am_cur_of (i := (52, 3, .if_icmp .ge 87, (79, 0, 0), 0)) (by decide +kernel)) (by decide) hm_z
        replace hm_z := rn_iload_n (am_cur_of (i := (55, 1, .iload_n 2, (0, 0, 0), 0)) (by decide +kernel)) g2_z hm_z
        replace hm_z := rn_ifF (am_cur_of (i := (56, 3, .ifCond .eq 13, (40, 0, 0), 0)) (by decide +kernel)) (by decide) hm_z
        replace hm_z := rn_iload_n (am_cur_of (i := (59, 1, .iload_n 2, (0, 0, 0), 0)) (by decide +kernel)) g2_z hm_z
        replace hm_z := rn_iconst (w := 2) (am_cur_of (i := (60, 1, .iconst 2, (0, 0, 0), 0)) (by decide +kernel)) (by decide) hm_z
        replace hm_z := rn_cmpF (am_cur_of (i := (61, 3, .if_icmp .eq 8, (40, 0, 0), 0)) (by decide +kernel)) (by decide) hm_z
        replace hm_z := rn_iload_n (am_cur_of (i := (64, 1, .iload_n 2, (0, 0, 0), 0)) (by decide +kernel)) g2_z hm_z
        replace hm_z := rn_iconst (w := 3) (am_cur_of (i := (65, 1, .iconst 3, (0, 0, 0), 0)) (by decide +kernel)) (by decide) hm_z
        replace hm_z := rn_cmpT (am_cur_of (i := (66, 3, .if_icmp .ne 7, (42, 0, 0), 0)) (by decide +kernel)) (by decide) hm_z
        replace hm_z := rn_iconst (w := 0) (am_cur_of (i := (73, 1, .iconst 0, (0, 0, 0), 0)) (by decide +kernel)) (by decide) hm_z
        replace hm_z := rn_istore_n (am_cur_of (i := (74, 1, .istore_n 3, (0, 0, 0), 0)) (by decide +kernel)) hm_z
        obtain ⟨_, s353_z, s354_z, g3_z, hm_z⟩ := hm_z
        replace g0_z := s353_z 0 _ (by decide) rfl g0_z
        replace g1_z := s353_z 1 _ (by decide) rfl g1_z
        replace g2_z := s353_z 2 _ (by decide) rfl g2_z
        replace g4_z := s353_z 4 _ (by decide) rfl g4_z
        clear s353_z s354_z
        replace hm_z := rn_iload_n (am_cur_of (i := (75, 1, .iload_n 2, (0, 0, 0), 0)) (by decide +kernel)) g2_z hm_z
        replace hm_z := rn_iconst (w := 1) (am_cur_of (i := (76, 1, .iconst 1, (0, 0, 0), 0)) (by decide +kernel)) (by decide) hm_z
        replace hm_z := rn_cmpT (am_cur_of (i := (77, 3, .if_icmp .eq 8, (50, 0, 0), 0)) (by decide +kernel)) (by decide) hm_z
        replace hm_z := rn_bipush (w := 20) (am_cur_of (i := (85, 2, .bipush 20, (0, 0, 0), 0)) (by decide +kernel)) (by decide) hm_z
        replace hm_z := rn_goto (am_cur_of (i := (87, 3, .goto 20, (61, 0, 0), 0)) (by decide +kernel)) hm_z
        replace hm_z := rn_istore (am_cur_of (i := (107, 2, .istore 4, (0, 0, 0), 0)) (by decide +kernel)) hm_z
        obtain ⟨_, s355_z, s356_z, g4_z, hm_z⟩ := hm_z
        replace g0_z := s355_z 0 _ (by decide) rfl g0_z
        replace g1_z := s355_z 1 _ (by decide) rfl g1_z
        replace g2_z := s355_z 2 _ (by decide) rfl g2_z
        replace g3_z := s355_z 3 _ (by decide) rfl g3_z
        clear s355_z s356_z
        replace hm_z := rn_aload_n (am_cur_of (i := (109, 1, .aload_n 0, (0, 0, 0), 0)) (by decide +kernel)) g0_z hm_z
        replace hm_z := rn_iload_n (am_cur_of (i := (110, 1, .iload_n 3, (0, 0, 0), 0)) (by decide +kernel)) g3_z hm_z
        replace hm_z := rn_iload (am_cur_of (i := (111, 2, .iload 4, (0, 0, 0), 0)) (by decide +kernel)) g4_z hm_z
        replace hm_z := rn_callV (M' := am_m161) (o := 164) (ar := [.int 20, .int 0]) (rest := []) (L := lv_args 0 [.ref 164, .int 0, .int 20]) (am_cur_of (i := (113, 3, .invokevirtual 197, (161, 1677, 3), 0)) (by decide +kernel)) rfl rfl rfl rfl hm_z
        obtain ⟨r357_z, h358_z, q359_z, hm_z⟩ := hm_z
        obtain ⟨v360_z, rfl⟩ := rn_ret (M := am_m161) rfl (by decide) q359_z
        have K360 := kp_of (a := 161) (by decide) rfl (as := [.ref 164, .int 0, .int 20]) (ra_Sc (fun _ e => by cases e; rfl) (ra_Sc (ra_Vi) (ra_Sc (ra_Vi) ra_S0))) q359_z
        have z360_z := zM_t (zM_u (o := 170) (k := 35) (by decide) z348_z) K360.1
        have e17_360 : rg_v h358_z 164 17 = 1 := (K360.2 17 (by decide)).trans (show rg_v (am_up h346_z 170 35 (.int (rg_v h346_z 164 11))) 164 17 = 1 from e17_348)
        have e18_360 : rg_v h358_z 164 18 = ct := (K360.2 18 (by decide)).trans (show rg_v (am_up h346_z 170 35 (.int (rg_v h346_z 164 11))) 164 18 = ct from e18_348)
        have e19_360 : rg_v h358_z 164 19 = cl := (K360.2 19 (by decide)).trans (show rg_v (am_up h346_z 170 35 (.int (rg_v h346_z 164 11))) 164 19 = cl from e19_348)
        have e20_360 : rg_v h358_z 164 20 = cq := (K360.2 20 (by decide)).trans (show rg_v (am_up h346_z 170 35 (.int (rg_v h346_z 164 11))) 164 20 = cq from e20_348)
        replace hm_z : rn _ _ _ _ [.int v360_z] _ _ _ := hm_z
        replace hm_z := rn_if (am_cur_of (i := (116, 3, .ifCond .ne 5, (69, 0, 0), 0)) (by decide +kernel)) hm_z
        rcases hm_z with ⟨b361_z, hm_z⟩ | ⟨b361_z, hm_z⟩
        · replace b361_z : ¬ v360_z = (0 : Int32) ∧ ¬ v360_z.toInt = (0 : Int32).toInt := b361_z
          replace hm_z := rn_aload_n (am_cur_of (i := (121, 1, .aload_n 0, (0, 0, 0), 0)) (by decide +kernel)) g0_z hm_z
          replace hm_z := rn_getR (x := 170) (am_cur_of (i := (122, 3, .getfield 30, (12, 25, 1409), 0)) (by decide +kernel)) (by decide +kernel) hm_z
          replace hm_z := rn_iload_n (am_cur_of (i := (125, 1, .iload_n 1, (0, 0, 0), 0)) (by decide +kernel)) g1_z hm_z
          replace hm_z := rn_iload_n (am_cur_of (i := (126, 1, .iload_n 2, (0, 0, 0), 0)) (by decide +kernel)) g2_z hm_z
          replace hm_z := rn_iadd (w := 36) (am_cur_of (i := (127, 1, .iadd, (0, 0, 0), 0)) (by decide +kernel)) (by decide) hm_z
          replace hm_z := rn_aload_n (am_cur_of (i := (128, 1, .aload_n 0, (0, 0, 0), 0)) (by decide +kernel)) g0_z hm_z
          replace hm_z := rn_getI (v := rg_v h358_z 164 11) (am_cur_of (i := (129, 3, .getfield 188, (12, 11, 1395), 0)) (by decide +kernel)) (by decide +kernel) rfl hm_z
          replace hm_z := rn_iastore (N := 56) (q := 36) (am_cur_of (i := (132, 1, .iastore, (0, 0, 0), 0)) (by decide +kernel)) (by decide +kernel) rfl hm_z
          obtain ⟨p362_z, hm_z⟩ := hm_z
          replace hm_z := rn_iinc (w := 2) (am_cur_of (i := (133, 3, .iinc 2 1, (0, 0, 0), 0)) (by decide +kernel)) g2_z (by decide) hm_z
          obtain ⟨_, s363_z, s364_z, g2_z, hm_z⟩ := hm_z
          replace g0_z := s363_z 0 _ (by decide) rfl g0_z
          replace g1_z := s363_z 1 _ (by decide) rfl g1_z
          replace g3_z := s363_z 3 _ (by decide) rfl g3_z
          replace g4_z := s363_z 4 _ (by decide) rfl g4_z
          clear s363_z s364_z
          replace hm_z := rn_goto (am_cur_of (i := (136, 3, .goto (-87), (29, 0, 0), 0)) (by decide +kernel)) hm_z
          replace hm_z := rn_iload_n (am_cur_of (i := (49, 1, .iload_n 2, (0, 0, 0), 0)) (by decide +kernel)) g2_z hm_z
          replace hm_z := rn_bipush (w := 7) (am_cur_of (i := (50, 2, .bipush 7, (0, 0, 0), 0)) (by decide +kernel)) (by decide) hm_z
          replace hm_z := rn_cmpF (am_cur_of (i := (52, 3, .if_icmp .ge 87, (79, 0, 0), 0)) (by decide +kernel)) (by decide) hm_z
          replace hm_z := rn_iload_n (am_cur_of (i := (55, 1, .iload_n 2, (0, 0, 0), 0)) (by decide +kernel)) g2_z hm_z
          replace hm_z := rn_ifF (am_cur_of (i := (56, 3, .ifCond .eq 13, (40, 0, 0), 0)) (by decide +kernel)) (by decide) hm_z
          replace hm_z := rn_iload_n (am_cur_of (i := (59, 1, .iload_n 2, (0, 0, 0), 0)) (by decide +kernel)) g2_z hm_z
          replace hm_z := rn_iconst (w := 2) (am_cur_of (i := (60, 1, .iconst 2, (0, 0, 0), 0)) (by decide +kernel)) (by decide) hm_z
          replace hm_z := rn_cmpT (am_cur_of (i := (61, 3, .if_icmp .eq 8, (40, 0, 0), 0)) (by decide +kernel)) (by decide) hm_z
          replace hm_z := rn_iconst (w := 1) (am_cur_of (i := (69, 1, .iconst 1, (0, 0, 0), 0)) (by decide +kernel)) (by decide) hm_z
          replace hm_z := rn_goto (am_cur_of (i := (70, 3, .goto 4, (43, 0, 0), 0)) (by decide +kernel)) hm_z
          replace hm_z := rn_istore_n (am_cur_of (i := (74, 1, .istore_n 3, (0, 0, 0), 0)) (by decide +kernel)) hm_z
          obtain ⟨_, s365_z, s366_z, g3_z, hm_z⟩ := hm_z
          replace g0_z := s365_z 0 _ (by decide) rfl g0_z
          replace g1_z := s365_z 1 _ (by decide) rfl g1_z
          replace g2_z := s365_z 2 _ (by decide) rfl g2_z
          replace g4_z := s365_z 4 _ (by decide) rfl g4_z
          clear s365_z s366_z
          replace hm_z := rn_iload_n (am_cur_of (i := (75, 1, .iload_n 2, (0, 0, 0), 0)) (by decide +kernel)) g2_z hm_z
          replace hm_z := rn_iconst (w := 1) (am_cur_of (i := (76, 1, .iconst 1, (0, 0, 0), 0)) (by decide +kernel)) (by decide) hm_z
          replace hm_z := rn_cmpF (am_cur_of (i := (77, 3, .if_icmp .eq 8, (50, 0, 0), 0)) (by decide +kernel)) (by decide) hm_z
          replace hm_z := rn_iload_n (am_cur_of (i := (80, 1, .iload_n 2, (0, 0, 0), 0)) (by decide +kernel)) g2_z hm_z
          replace hm_z := rn_iconst (w := 2) (am_cur_of (i := (81, 1, .iconst 2, (0, 0, 0), 0)) (by decide +kernel)) (by decide) hm_z
          replace hm_z := rn_cmpF (am_cur_of (i := (82, 3, .if_icmp .ne 8, (52, 0, 0), 0)) (by decide +kernel)) (by decide) hm_z
          replace hm_z := rn_bipush (w := 20) (am_cur_of (i := (85, 2, .bipush 20, (0, 0, 0), 0)) (by decide +kernel)) (by decide) hm_z
          replace hm_z := rn_goto (am_cur_of (i := (87, 3, .goto 20, (61, 0, 0), 0)) (by decide +kernel)) hm_z
          replace hm_z := rn_istore (am_cur_of (i := (107, 2, .istore 4, (0, 0, 0), 0)) (by decide +kernel)) hm_z
          obtain ⟨_, s367_z, s368_z, g4_z, hm_z⟩ := hm_z
          replace g0_z := s367_z 0 _ (by decide) rfl g0_z
          replace g1_z := s367_z 1 _ (by decide) rfl g1_z
          replace g2_z := s367_z 2 _ (by decide) rfl g2_z
          replace g3_z := s367_z 3 _ (by decide) rfl g3_z
          clear s367_z s368_z
          replace hm_z := rn_aload_n (am_cur_of (i := (109, 1, .aload_n 0, (0, 0, 0), 0)) (by decide +kernel)) g0_z hm_z
          replace hm_z := rn_iload_n (am_cur_of (i := (110, 1, .iload_n 3, (0, 0, 0), 0)) (by decide +kernel)) g3_z hm_z
          replace hm_z := rn_iload (am_cur_of (i := (111, 2, .iload 4, (0, 0, 0), 0)) (by decide +kernel)) g4_z hm_z
          replace hm_z := rn_callV (M' := am_m161) (o := 164) (ar := [.int 20, .int 1]) (rest := []) (L := lv_args 0 [.ref 164, .int 1, .int 20]) (am_cur_of (i := (113, 3, .invokevirtual 197, (161, 1677, 3), 0)) (by decide +kernel)) rfl rfl rfl rfl hm_z
          obtain ⟨r369_z, h370_z, q371_z, hm_z⟩ := hm_z
          obtain ⟨v372_z, rfl⟩ := rn_ret (M := am_m161) rfl (by decide) q371_z
          have K372 := kp_of (a := 161) (by decide) rfl (as := [.ref 164, .int 1, .int 20]) (ra_Sc (fun _ e => by cases e; rfl) (ra_Sc (ra_Vi) (ra_Sc (ra_Vi) ra_S0))) q371_z
          have z372_z := zM_t (zM_u (o := 170) (k := 36) (by decide) z360_z) K372.1
          have e17_372 : rg_v h370_z 164 17 = 1 := (K372.2 17 (by decide)).trans (show rg_v (am_up h358_z 170 36 (.int (rg_v h358_z 164 11))) 164 17 = 1 from e17_360)
          have e18_372 : rg_v h370_z 164 18 = ct := (K372.2 18 (by decide)).trans (show rg_v (am_up h358_z 170 36 (.int (rg_v h358_z 164 11))) 164 18 = ct from e18_360)
          have e19_372 : rg_v h370_z 164 19 = cl := (K372.2 19 (by decide)).trans (show rg_v (am_up h358_z 170 36 (.int (rg_v h358_z 164 11))) 164 19 = cl from e19_360)
          have e20_372 : rg_v h370_z 164 20 = cq := (K372.2 20 (by decide)).trans (show rg_v (am_up h358_z 170 36 (.int (rg_v h358_z 164 11))) 164 20 = cq from e20_360)
          replace hm_z : rn _ _ _ _ [.int v372_z] _ _ _ := hm_z
          replace hm_z := rn_if (am_cur_of (i := (116, 3, .ifCond .ne 5, (69, 0, 0), 0)) (by decide +kernel)) hm_z
          rcases hm_z with ⟨b373_z, hm_z⟩ | ⟨b373_z, hm_z⟩
          · replace b373_z : ¬ v372_z = (0 : Int32) ∧ ¬ v372_z.toInt = (0 : Int32).toInt := b373_z
            replace hm_z := rn_aload_n (am_cur_of (i := (121, 1, .aload_n 0, (0, 0, 0), 0)) (by decide +kernel)) g0_z hm_z
            replace hm_z := rn_getR (x := 170) (am_cur_of (i := (122, 3, .getfield 30, (12, 25, 1409), 0)) (by decide +kernel)) (by decide +kernel) hm_z
            replace hm_z := rn_iload_n (am_cur_of (i := (125, 1, .iload_n 1, (0, 0, 0), 0)) (by decide +kernel)) g1_z hm_z
            replace hm_z := rn_iload_n (am_cur_of (i := (126, 1, .iload_n 2, (0, 0, 0), 0)) (by decide +kernel)) g2_z hm_z
            replace hm_z := rn_iadd (w := 37) (am_cur_of (i := (127, 1, .iadd, (0, 0, 0), 0)) (by decide +kernel)) (by decide) hm_z
            replace hm_z := rn_aload_n (am_cur_of (i := (128, 1, .aload_n 0, (0, 0, 0), 0)) (by decide +kernel)) g0_z hm_z
            replace hm_z := rn_getI (v := rg_v h370_z 164 11) (am_cur_of (i := (129, 3, .getfield 188, (12, 11, 1395), 0)) (by decide +kernel)) (by decide +kernel) rfl hm_z
            replace hm_z := rn_iastore (N := 56) (q := 37) (am_cur_of (i := (132, 1, .iastore, (0, 0, 0), 0)) (by decide +kernel)) (by decide +kernel) rfl hm_z
            obtain ⟨p374_z, hm_z⟩ := hm_z
            replace hm_z := rn_iinc (w := 3) (am_cur_of (i := (133, 3, .iinc 2 1, (0, 0, 0), 0)) (by decide +kernel)) g2_z (by decide) hm_z
            obtain ⟨_, s375_z, s376_z, g2_z, hm_z⟩ := hm_z
            replace g0_z := s375_z 0 _ (by decide) rfl g0_z
            replace g1_z := s375_z 1 _ (by decide) rfl g1_z
            replace g3_z := s375_z 3 _ (by decide) rfl g3_z
            replace g4_z := s375_z 4 _ (by decide) rfl g4_z
            clear s375_z s376_z
            replace hm_z := rn_goto (am_cur_of (i := (136, 3, .goto (-87), (29, 0, 0), 0)) (by decide +kernel)) hm_z
            replace hm_z := rn_iload_n (am_cur_of (i := (49, 1, .iload_n 2, (0, 0, 0), 0)) (by decide +kernel)) g2_z hm_z
            replace hm_z := rn_bipush (w := 7) (am_cur_of (i := (50, 2, .bipush 7, (0, 0, 0), 0)) (by decide +kernel)) (by decide) hm_z
            replace hm_z := rn_cmpF (am_cur_of (i := (52, 3, .if_icmp .ge 87, (79, 0, 0), 0)) (by decide +kernel)) (by decide) hm_z
            replace hm_z := rn_iload_n (am_cur_of (i := (55, 1, .iload_n 2, (0, 0, 0), 0)) (by decide +kernel)) g2_z hm_z
            replace hm_z := rn_ifF (am_cur_of (i := (56, 3, .ifCond .eq 13, (40, 0, 0), 0)) (by decide +kernel)) (by decide) hm_z
            replace hm_z := rn_iload_n (am_cur_of (i := (59, 1, .iload_n 2, (0, 0, 0), 0)) (by decide +kernel)) g2_z hm_z
            replace hm_z := rn_iconst (w := 2) (am_cur_of (i := (60, 1, .iconst 2, (0, 0, 0), 0)) (by decide +kernel)) (by decide) hm_z
            replace hm_z := rn_cmpF (am_cur_of (i := (61, 3, .if_icmp .eq 8, (40, 0, 0), 0)) (by decide +kernel)) (by decide) hm_z
            replace hm_z := rn_iload_n (am_cur_of (i := (64, 1, .iload_n 2, (0, 0, 0), 0)) (by decide +kernel)) g2_z hm_z
            replace hm_z := rn_iconst (w := 3) (am_cur_of (i := (65, 1, .iconst 3, (0, 0, 0), 0)) (by decide +kernel)) (by decide) hm_z
            replace hm_z := rn_cmpF (am_cur_of (i := (66, 3, .if_icmp .ne 7, (42, 0, 0), 0)) (by decide +kernel)) (by decide) hm_z
            replace hm_z := rn_iconst (w := 1) (am_cur_of (i := (69, 1, .iconst 1, (0, 0, 0), 0)) (by decide +kernel)) (by decide) hm_z
            replace hm_z := rn_goto (am_cur_of (i := (70, 3, .goto 4, (43, 0, 0), 0)) (by decide +kernel)) hm_z
            replace hm_z := rn_istore_n (am_cur_of (i := (74, 1, .istore_n 3, (0, 0, 0), 0)) (by decide +kernel)) hm_z
            obtain ⟨_, s377_z, s378_z, g3_z, hm_z⟩ := hm_z
            replace g0_z := s377_z 0 _ (by decide) rfl g0_z
            replace g1_z := s377_z 1 _ (by decide) rfl g1_z
            replace g2_z := s377_z 2 _ (by decide) rfl g2_z
            replace g4_z := s377_z 4 _ (by decide) rfl g4_z
            clear s377_z s378_z
            replace hm_z := rn_iload_n (am_cur_of (i := (75, 1, .iload_n 2, (0, 0, 0), 0)) (by decide +kernel)) g2_z hm_z
            replace hm_z := rn_iconst (w := 1) (am_cur_of (i := (76, 1, .iconst 1, (0, 0, 0), 0)) (by decide +kernel)) (by decide) hm_z
            replace hm_z := rn_cmpF (am_cur_of (i := (77, 3, .if_icmp .eq 8, (50, 0, 0), 0)) (by decide +kernel)) (by decide) hm_z
            replace hm_z := rn_iload_n (am_cur_of (i := (80, 1, .iload_n 2, (0, 0, 0), 0)) (by decide +kernel)) g2_z hm_z
            replace hm_z := rn_iconst (w := 2) (am_cur_of (i := (81, 1, .iconst 2, (0, 0, 0), 0)) (by decide +kernel)) (by decide) hm_z
            replace hm_z := rn_cmpT (am_cur_of (i := (82, 3, .if_icmp .ne 8, (52, 0, 0), 0)) (by decide +kernel)) (by decide) hm_z
            replace hm_z := rn_iload_n (am_cur_of (i := (90, 1, .iload_n 2, (0, 0, 0), 0)) (by decide +kernel)) g2_z hm_z
            replace hm_z := rn_iconst (w := 3) (am_cur_of (i := (91, 1, .iconst 3, (0, 0, 0), 0)) (by decide +kernel)) (by decide) hm_z
            replace hm_z := rn_cmpT (am_cur_of (i := (92, 3, .if_icmp .eq 8, (58, 0, 0), 0)) (by decide +kernel)) (by decide) hm_z
            replace hm_z := rn_bipush (w := 9) (am_cur_of (i := (100, 2, .bipush 9, (0, 0, 0), 0)) (by decide +kernel)) (by decide) hm_z
            replace hm_z := rn_goto (am_cur_of (i := (102, 3, .goto 5, (61, 0, 0), 0)) (by decide +kernel)) hm_z
            replace hm_z := rn_istore (am_cur_of (i := (107, 2, .istore 4, (0, 0, 0), 0)) (by decide +kernel)) hm_z
            obtain ⟨_, s379_z, s380_z, g4_z, hm_z⟩ := hm_z
            replace g0_z := s379_z 0 _ (by decide) rfl g0_z
            replace g1_z := s379_z 1 _ (by decide) rfl g1_z
            replace g2_z := s379_z 2 _ (by decide) rfl g2_z
            replace g3_z := s379_z 3 _ (by decide) rfl g3_z
            clear s379_z s380_z
            replace hm_z := rn_aload_n (am_cur_of (i := (109, 1, .aload_n 0, (0, 0, 0), 0)) (by decide +kernel)) g0_z hm_z
            replace hm_z := rn_iload_n (am_cur_of (i := (110, 1, .iload_n 3, (0, 0, 0), 0)) (by decide +kernel)) g3_z hm_z
            replace hm_z := rn_iload (am_cur_of (i := (111, 2, .iload 4, (0, 0, 0), 0)) (by decide +kernel)) g4_z hm_z
            replace hm_z := rn_callV (M' := am_m161) (o := 164) (ar := [.int 9, .int 1]) (rest := []) (L := lv_args 0 [.ref 164, .int 1, .int 9]) (am_cur_of (i := (113, 3, .invokevirtual 197, (161, 1677, 3), 0)) (by decide +kernel)) rfl rfl rfl rfl hm_z
            obtain ⟨r381_z, h382_z, q383_z, hm_z⟩ := hm_z
            obtain ⟨v384_z, rfl⟩ := rn_ret (M := am_m161) rfl (by decide) q383_z
            have K384 := kp_of (a := 161) (by decide) rfl (as := [.ref 164, .int 1, .int 9]) (ra_Sc (fun _ e => by cases e; rfl) (ra_Sc (ra_Vi) (ra_Sc (ra_Vi) ra_S0))) q383_z
            have z384_z := zM_t (zM_u (o := 170) (k := 37) (by decide) z372_z) K384.1
            have e17_384 : rg_v h382_z 164 17 = 1 := (K384.2 17 (by decide)).trans (show rg_v (am_up h370_z 170 37 (.int (rg_v h370_z 164 11))) 164 17 = 1 from e17_372)
            have e18_384 : rg_v h382_z 164 18 = ct := (K384.2 18 (by decide)).trans (show rg_v (am_up h370_z 170 37 (.int (rg_v h370_z 164 11))) 164 18 = ct from e18_372)
            have e19_384 : rg_v h382_z 164 19 = cl := (K384.2 19 (by decide)).trans (show rg_v (am_up h370_z 170 37 (.int (rg_v h370_z 164 11))) 164 19 = cl from e19_372)
            have e20_384 : rg_v h382_z 164 20 = cq := (K384.2 20 (by decide)).trans (show rg_v (am_up h370_z 170 37 (.int (rg_v h370_z 164 11))) 164 20 = cq from e20_372)
            replace hm_z : rn _ _ _ _ [.int v384_z] _ _ _ := hm_z
            replace hm_z := rn_if (am_cur_of (i := (116, 3, .ifCond .ne 5, (69, 0, 0), 0)) (by decide +kernel)) hm_z
            rcases hm_z with ⟨b385_z, hm_z⟩ | ⟨b385_z, hm_z⟩
            · replace b385_z : ¬ v384_z = (0 : Int32) ∧ ¬ v384_z.toInt = (0 : Int32).toInt := b385_z
              replace hm_z := rn_aload_n (am_cur_of (i := (121, 1, .aload_n 0, (0, 0, 0), 0)) (by decide +kernel)) g0_z hm_z
              replace hm_z := rn_getR (x := 170) (am_cur_of (i := (122, 3, .getfield 30, (12, 25, 1409), 0)) (by decide +kernel)) (by decide +kernel) hm_z
              replace hm_z := rn_iload_n (am_cur_of (i := (125, 1, .iload_n 1, (0, 0, 0), 0)) (by decide +kernel)) g1_z hm_z
              replace hm_z := rn_iload_n (am_cur_of (i := (126, 1, .iload_n 2, (0, 0, 0), 0)) (by decide +kernel)) g2_z hm_z
              replace hm_z := rn_iadd (w := 38) (am_cur_of (i := (127, 1, .iadd, (0, 0, 0), 0)) (by decide +kernel)) (by decide) hm_z
              replace hm_z := rn_aload_n (am_cur_of (i := (128, 1, .aload_n 0, (0, 0, 0), 0)) (by decide +kernel)) g0_z hm_z
              replace hm_z := rn_getI (v := rg_v h382_z 164 11) (am_cur_of (i := (129, 3, .getfield 188, (12, 11, 1395), 0)) (by decide +kernel)) (by decide +kernel) rfl hm_z
              replace hm_z := rn_iastore (N := 56) (q := 38) (am_cur_of (i := (132, 1, .iastore, (0, 0, 0), 0)) (by decide +kernel)) (by decide +kernel) rfl hm_z
              obtain ⟨p386_z, hm_z⟩ := hm_z
              replace hm_z := rn_iinc (w := 4) (am_cur_of (i := (133, 3, .iinc 2 1, (0, 0, 0), 0)) (by decide +kernel)) g2_z (by decide) hm_z
              obtain ⟨_, s387_z, s388_z, g2_z, hm_z⟩ := hm_z
              replace g0_z := s387_z 0 _ (by decide) rfl g0_z
              replace g1_z := s387_z 1 _ (by decide) rfl g1_z
              replace g3_z := s387_z 3 _ (by decide) rfl g3_z
              replace g4_z := s387_z 4 _ (by decide) rfl g4_z
              clear s387_z s388_z
              replace hm_z := rn_goto (am_cur_of (i := (136, 3, .goto (-87), (29, 0, 0), 0)) (by decide +kernel)) hm_z
              replace hm_z := rn_iload_n (am_cur_of (i := (49, 1, .iload_n 2, (0, 0, 0), 0)) (by decide +kernel)) g2_z hm_z
              replace hm_z := rn_bipush (w := 7) (am_cur_of (i := (50, 2, .bipush 7, (0, 0, 0), 0)) (by decide +kernel)) (by decide) hm_z
              replace hm_z := rn_cmpF (am_cur_of (i := (52, 3, .if_icmp .ge 87, (79, 0, 0), 0)) (by decide +kernel)) (by decide) hm_z
              replace hm_z := rn_iload_n (am_cur_of (i := (55, 1, .iload_n 2, (0, 0, 0), 0)) (by decide +kernel)) g2_z hm_z
              replace hm_z := rn_ifF (am_cur_of (i := (56, 3, .ifCond .eq 13, (40, 0, 0), 0)) (by decide +kernel)) (by decide) hm_z
              replace hm_z := rn_iload_n (am_cur_of (i := (59, 1, .iload_n 2, (0, 0, 0), 0)) (by decide +kernel)) g2_z hm_z
              replace hm_z := rn_iconst (w := 2) (am_cur_of (i := (60, 1, .iconst 2, (0, 0, 0), 0)) (by decide +kernel)) (by decide) hm_z
              replace hm_z := rn_cmpF (am_cur_of (i := (61, 3, .if_icmp .eq 8, (40, 0, 0), 0)) (by decide +kernel)) (by decide) hm_z
              replace hm_z := rn_iload_n (am_cur_of (i := (64, 1, .iload_n 2, (0, 0, 0), 0)) (by decide +kernel)) g2_z hm_z
              replace hm_z := rn_iconst (w := 3) (am_cur_of (i := (65, 1, .iconst 3, (0, 0, 0), 0)) (by decide +kernel)) (by decide) hm_z
              replace hm_z := rn_cmpT (am_cur_of (i := (66, 3, .if_icmp .ne 7, (42, 0, 0), 0)) (by decide +kernel)) (by decide) hm_z
              replace hm_z := rn_iconst (w := 0) (am_cur_of (i := (73, 1, .iconst 0, (0, 0, 0), 0)) (by decide +kernel)) (by decide) hm_z
              replace hm_z := rn_istore_n (am_cur_of (i := (74, 1, .istore_n 3, (0, 0, 0), 0)) (by decide +kernel)) hm_z
              obtain ⟨_, s389_z, s390_z, g3_z, hm_z⟩ := hm_z
              replace g0_z := s389_z 0 _ (by decide) rfl g0_z
              replace g1_z := s389_z 1 _ (by decide) rfl g1_z
              replace g2_z := s389_z 2 _ (by decide) rfl g2_z
              replace g4_z := s389_z 4 _ (by decide) rfl g4_z
              clear s389_z s390_z
              replace hm_z := rn_iload_n (am_cur_of (i := (75, 1, .iload_n 2, (0, 0, 0), 0)) (by decide +kernel)) g2_z hm_z
              replace hm_z := rn_iconst (w := 1) (am_cur_of (i := (76, 1, .iconst 1, (0, 0, 0), 0)) (by decide +kernel)) (by decide) hm_z
              replace hm_z := rn_cmpF (am_cur_of (i := (77, 3, .if_icmp .eq 8, (50, 0, 0), 0)) (by decide +kernel)) (by decide) hm_z
              replace hm_z := rn_iload_n (am_cur_of (i := (80, 1, .iload_n 2, (0, 0, 0), 0)) (by decide +kernel)) g2_z hm_z
              replace hm_z := rn_iconst (w := 2) (am_cur_of (i := (81, 1, .iconst 2, (0, 0, 0), 0)) (by decide +kernel)) (by decide) hm_z
              replace hm_z := rn_cmpT (am_cur_of (i := (82, 3, .if_icmp .ne 8, (52, 0, 0), 0)) (by decide +kernel)) (by decide) hm_z
              replace hm_z := rn_iload_n (am_cur_of (i := (90, 1, .iload_n 2, (0, 0, 0), 0)) (by decide +kernel)) g2_z hm_z
              replace hm_z := rn_iconst (w := 3) (am_cur_of (i := (91, 1, .iconst 3, (0, 0, 0), 0)) (by decide +kernel)) (by decide) hm_z
              replace hm_z := rn_cmpF (am_cur_of (i := (92, 3, .if_icmp .eq 8, (58, 0, 0), 0)) (by decide +kernel)) (by decide) hm_z
              replace hm_z := rn_iload_n (am_cur_of (i := (95, 1, .iload_n 2, (0, 0, 0), 0)) (by decide +kernel)) g2_z hm_z
              replace hm_z := rn_iconst (w := 5) (am_cur_of (i := (96, 1, .iconst 5, (0, 0, 0), 0)) (by decide +kernel)) (by decide) hm_z
              replace hm_z := rn_cmpT (am_cur_of (i := (97, 3, .if_icmp .ne 8, (60, 0, 0), 0)) (by decide +kernel)) (by decide) hm_z
              replace hm_z := rn_bipush (w := 99) (am_cur_of (i := (105, 2, .bipush 99, (0, 0, 0), 0)) (by decide +kernel)) (by decide) hm_z
              replace hm_z := rn_istore (am_cur_of (i := (107, 2, .istore 4, (0, 0, 0), 0)) (by decide +kernel)) hm_z
              obtain ⟨_, s391_z, s392_z, g4_z, hm_z⟩ := hm_z
              replace g0_z := s391_z 0 _ (by decide) rfl g0_z
              replace g1_z := s391_z 1 _ (by decide) rfl g1_z
              replace g2_z := s391_z 2 _ (by decide) rfl g2_z
              replace g3_z := s391_z 3 _ (by decide) rfl g3_z
              clear s391_z s392_z
              replace hm_z := rn_aload_n (am_cur_of (i := (109, 1, .aload_n 0, (0, 0, 0), 0)) (by decide +kernel)) g0_z hm_z
              replace hm_z := rn_iload_n (am_cur_of (i := (110, 1, .iload_n 3, (0, 0, 0), 0)) (by decide +kernel)) g3_z hm_z
              replace hm_z := rn_iload (am_cur_of (i := (111, 2, .iload 4, (0, 0, 0), 0)) (by decide +kernel)) g4_z hm_z
              replace hm_z := rn_callV (M' := am_m161) (o := 164) (ar := [.int 99, .int 0]) (rest := []) (L := lv_args 0 [.ref 164, .int 0, .int 99]) (am_cur_of (i := (113, 3, .invokevirtual 197, (161, 1677, 3), 0)) (by decide +kernel)) rfl rfl rfl rfl hm_z
              obtain ⟨r393_z, h394_z, q395_z, hm_z⟩ := hm_z
              obtain ⟨v396_z, rfl⟩ := rn_ret (M := am_m161) rfl (by decide) q395_z
              have K396 := kp_of (a := 161) (by decide) rfl (as := [.ref 164, .int 0, .int 99]) (ra_Sc (fun _ e => by cases e; rfl) (ra_Sc (ra_Vi) (ra_Sc (ra_Vi) ra_S0))) q395_z
              have z396_z := zM_t (zM_u (o := 170) (k := 38) (by decide) z384_z) K396.1
              have e17_396 : rg_v h394_z 164 17 = 1 := (K396.2 17 (by decide)).trans (show rg_v (am_up h382_z 170 38 (.int (rg_v h382_z 164 11))) 164 17 = 1 from e17_384)
              have e18_396 : rg_v h394_z 164 18 = ct := (K396.2 18 (by decide)).trans (show rg_v (am_up h382_z 170 38 (.int (rg_v h382_z 164 11))) 164 18 = ct from e18_384)
              have e19_396 : rg_v h394_z 164 19 = cl := (K396.2 19 (by decide)).trans (show rg_v (am_up h382_z 170 38 (.int (rg_v h382_z 164 11))) 164 19 = cl from e19_384)
              have e20_396 : rg_v h394_z 164 20 = cq := (K396.2 20 (by decide)).trans (show rg_v (am_up h382_z 170 38 (.int (rg_v h382_z 164 11))) 164 20 = cq from e20_384)
              replace hm_z : rn _ _ _ _ [.int v396_z] _ _ _ := hm_z
              replace hm_z := rn_if (am_cur_of (i := (116, 3, .ifCond .ne 5, (69, 0, 0), 0)) (by decide +kernel)) hm_z
              rcases hm_z with ⟨b397_z, hm_z⟩ | ⟨b397_z, hm_z⟩
              · replace b397_z : ¬ v396_z = (0 : Int32) ∧ ¬ v396_z.toInt = (0 : Int32).toInt := b397_z
                replace hm_z := rn_aload_n (am_cur_of (i := (121, 1, .aload_n 0, (0, 0, 0), 0)) (by decide +kernel)) g0_z hm_z
                replace hm_z := rn_getR (x := 170) (am_cur_of (i := (122, 3, .getfield 30, (12, 25, 1409), 0)) (by decide +kernel)) (by decide +kernel) hm_z
                replace hm_z := rn_iload_n (am_cur_of (i := (125, 1, .iload_n 1, (0, 0, 0), 0)) (by decide +kernel)) g1_z hm_z
                replace hm_z := rn_iload_n (am_cur_of (i := (126, 1, .iload_n 2, (0, 0, 0), 0)) (by decide +kernel)) g2_z hm_z
                replace hm_z := rn_iadd (w := 39) (am_cur_of (i := (127, 1, .iadd, (0, 0, 0), 0)) (by decide +kernel)) (by decide) hm_z
                replace hm_z := rn_aload_n (am_cur_of (i := (128, 1, .aload_n 0, (0, 0, 0), 0)) (by decide +kernel)) g0_z hm_z
                replace hm_z := rn_getI (v := rg_v h394_z 164 11) (am_cur_of (i := (129, 3, .getfield 188, (12, 11, 1395), 0)) (by decide +kernel)) (by decide +kernel) rfl hm_z
                replace hm_z := rn_iastore (N := 56) (q := 39) (am_cur_of (i := (132, 1, .iastore, (0, 0, 0), 0)) (by decide +kernel)) (by decide +kernel) rfl hm_z
                obtain ⟨p398_z, hm_z⟩ := hm_z
                replace hm_z := rn_iinc (w := 5) (am_cur_of (i := (133, 3, .iinc 2 1, (0, 0, 0), 0)) (by decide +kernel)) g2_z (by decide) hm_z
                obtain ⟨_, s399_z, s400_z, g2_z, hm_z⟩ := hm_z
                replace g0_z := s399_z 0 _ (by decide) rfl g0_z
                replace g1_z := s399_z 1 _ (by decide) rfl g1_z
                replace g3_z := s399_z 3 _ (by decide) rfl g3_z
                replace g4_z := s399_z 4 _ (by decide) rfl g4_z
                clear s399_z s400_z
                replace hm_z := rn_goto (am_cur_of (i := (136, 3, .goto (-87), (29, 0, 0), 0)) (by decide +kernel)) hm_z
                replace hm_z := rn_iload_n (am_cur_of (i := (49, 1, .iload_n 2, (0, 0, 0), 0)) (by decide +kernel)) g2_z hm_z
                replace hm_z := rn_bipush (w := 7) (am_cur_of (i := (50, 2, .bipush 7, (0, 0, 0), 0)) (by decide +kernel)) (by decide) hm_z
                replace hm_z := rn_cmpF (am_cur_of (i := (52, 3, .if_icmp .ge 87, (79, 0, 0), 0)) (by decide +kernel)) (by decide) hm_z
                replace hm_z := rn_iload_n (am_cur_of (i := (55, 1, .iload_n 2, (0, 0, 0), 0)) (by decide +kernel)) g2_z hm_z
                replace hm_z := rn_ifF (am_cur_of (i := (56, 3, .ifCond .eq 13, (40, 0, 0), 0)) (by decide +kernel)) (by decide) hm_z
                replace hm_z := rn_iload_n (am_cur_of (i := (59, 1, .iload_n 2, (0, 0, 0), 0)) (by decide +kernel)) g2_z hm_z
                replace hm_z := rn_iconst (w := 2) (am_cur_of (i := (60, 1, .iconst 2, (0, 0, 0), 0)) (by decide +kernel)) (by decide) hm_z
                replace hm_z := rn_cmpF (am_cur_of (i := (61, 3, .if_icmp .eq 8, (40, 0, 0), 0)) (by decide +kernel)) (by decide) hm_z
                replace hm_z := rn_iload_n (am_cur_of (i := (64, 1, .iload_n 2, (0, 0, 0), 0)) (by decide +kernel)) g2_z hm_z
                replace hm_z := rn_iconst (w := 3) (am_cur_of (i := (65, 1, .iconst 3, (0, 0, 0), 0)) (by decide +kernel)) (by decide) hm_z
                replace hm_z := rn_cmpT (am_cur_of (i := (66, 3, .if_icmp .ne 7, (42, 0, 0), 0)) (by decide +kernel)) (by decide) hm_z
                replace hm_z := rn_iconst (w := 0) (am_cur_of (i := (73, 1, .iconst 0, (0, 0, 0), 0)) (by decide +kernel)) (by decide) hm_z
                replace hm_z := rn_istore_n (am_cur_of (i := (74, 1, .istore_n 3, (0, 0, 0), 0)) (by decide +kernel)) hm_z
                obtain ⟨_, s401_z, s402_z, g3_z, hm_z⟩ := hm_z
                replace g0_z := s401_z 0 _ (by decide) rfl g0_z
                replace g1_z := s401_z 1 _ (by decide) rfl g1_z
                replace g2_z := s401_z 2 _ (by decide) rfl g2_z
                replace g4_z := s401_z 4 _ (by decide) rfl g4_z
                clear s401_z s402_z
                replace hm_z := rn_iload_n (am_cur_of (i := (75, 1, .iload_n 2, (0, 0, 0), 0)) (by decide +kernel)) g2_z hm_z
                replace hm_z := rn_iconst (w := 1) (am_cur_of (i := (76, 1, .iconst 1, (0, 0, 0), 0)) (by decide +kernel)) (by decide) hm_z
                replace hm_z := rn_cmpF (am_cur_of (i := (77, 3, .if_icmp .eq 8, (50, 0, 0), 0)) (by decide +kernel)) (by decide) hm_z
                replace hm_z := rn_iload_n (am_cur_of (i := (80, 1, .iload_n 2, (0, 0, 0), 0)) (by decide +kernel)) g2_z hm_z
                replace hm_z := rn_iconst (w := 2) (am_cur_of (i := (81, 1, .iconst 2, (0, 0, 0), 0)) (by decide +kernel)) (by decide) hm_z
                replace hm_z := rn_cmpT (am_cur_of (i := (82, 3, .if_icmp .ne 8, (52, 0, 0), 0)) (by decide +kernel)) (by decide) hm_z
                replace hm_z := rn_iload_n (am_cur_of (i := (90, 1, .iload_n 2, (0, 0, 0), 0)) (by decide +kernel)) g2_z hm_z
                replace hm_z := rn_iconst (w := 3) (am_cur_of (i := (91, 1, .iconst 3, (0, 0, 0), 0)) (by decide +kernel)) (by decide) hm_z
                replace hm_z := rn_cmpF (am_cur_of (i := (92, 3, .if_icmp .eq 8, (58, 0, 0), 0)) (by decide +kernel)) (by decide) hm_z
                replace hm_z := rn_iload_n (am_cur_of (i := (95, 1, .iload_n 2, (0, 0, 0), 0)) (by decide +kernel)) g2_z hm_z
                replace hm_z := rn_iconst (w := 5) (am_cur_of (i := (96, 1, .iconst 5, (0, 0, 0), 0)) (by decide +kernel)) (by decide) hm_z
                replace hm_z := rn_cmpF (am_cur_of (i := (97, 3, .if_icmp .ne 8, (60, 0, 0), 0)) (by decide +kernel)) (by decide) hm_z
                replace hm_z := rn_bipush (w := 9) (am_cur_of (i := (100, 2, .bipush 9, (0, 0, 0), 0)) (by decide +kernel)) (by decide) hm_z
                replace hm_z := rn_goto (am_cur_of (i := (102, 3, .goto 5, (61, 0, 0), 0)) (by decide +kernel)) hm_z
                replace hm_z := rn_istore (am_cur_of (i := (107, 2, .istore 4, (0, 0, 0), 0)) (by decide +kernel)) hm_z
                obtain ⟨_, s403_z, s404_z, g4_z, hm_z⟩ := hm_z
                replace g0_z := s403_z 0 _ (by decide) rfl g0_z
                replace g1_z := s403_z 1 _ (by decide) rfl g1_z
                replace g2_z := s403_z 2 _ (by decide) rfl g2_z
                replace g3_z := s403_z 3 _ (by decide) rfl g3_z
                clear s403_z s404_z
                replace hm_z := rn_aload_n (am_cur_of (i := (109, 1, .aload_n 0, (0, 0, 0), 0)) (by decide +kernel)) g0_z hm_z
                replace hm_z := rn_iload_n (am_cur_of (i := (110, 1, .iload_n 3, (0, 0, 0), 0)) (by decide +kernel)) g3_z hm_z
                replace hm_z := rn_iload (am_cur_of (i := (111, 2, .iload 4, (0, 0, 0), 0)) (by decide +kernel)) g4_z hm_z
                replace hm_z := rn_callV (M' := am_m161) (o := 164) (ar := [.int 9, .int 0]) (rest := []) (L := lv_args 0 [.ref 164, .int 0, .int 9]) (am_cur_of (i := (113, 3, .invokevirtual 197, (161, 1677, 3), 0)) (by decide +kernel)) rfl rfl rfl rfl hm_z
                obtain ⟨r405_z, h406_z, q407_z, hm_z⟩ := hm_z
                obtain ⟨v408_z, rfl⟩ := rn_ret (M := am_m161) rfl (by decide) q407_z
                have K408 := kp_of (a := 161) (by decide) rfl (as := [.ref 164, .int 0, .int 9]) (ra_Sc (fun _ e => by cases e; rfl) (ra_Sc (ra_Vi) (ra_Sc (ra_Vi) ra_S0))) q407_z
                have z408_z := zM_t (zM_u (o := 170) (k := 39) (by decide) z396_z) K408.1
                have e17_408 : rg_v h406_z 164 17 = 1 := (K408.2 17 (by decide)).trans (show rg_v (am_up h394_z 170 39 (.int (rg_v h394_z 164 11))) 164 17 = 1 from e17_396)
                have e18_408 : rg_v h406_z 164 18 = ct := (K408.2 18 (by decide)).trans (show rg_v (am_up h394_z 170 39 (.int (rg_v h394_z 164 11))) 164 18 = ct from e18_396)
                have e19_408 : rg_v h406_z 164 19 = cl := (K408.2 19 (by decide)).trans (show rg_v (am_up h394_z 170 39 (.int (rg_v h394_z 164 11))) 164 19 = cl from e19_396)
                have e20_408 : rg_v h406_z 164 20 = cq := (K408.2 20 (by decide)).trans (show rg_v (am_up h394_z 170 39 (.int (rg_v h394_z 164 11))) 164 20 = cq from e20_396)
                replace hm_z : rn _ _ _ _ [.int v408_z] _ _ _ := hm_z
                replace hm_z := rn_if (am_cur_of (i := (116, 3, .ifCond .ne 5, (69, 0, 0), 0)) (by decide +kernel)) hm_z
                rcases hm_z with ⟨b409_z, hm_z⟩ | ⟨b409_z, hm_z⟩
                · replace b409_z : ¬ v408_z = (0 : Int32) ∧ ¬ v408_z.toInt = (0 : Int32).toInt := b409_z
                  replace hm_z := rn_aload_n (am_cur_of (i := (121, 1, .aload_n 0, (0, 0, 0), 0)) (by decide +kernel)) g0_z hm_z
                  replace hm_z := rn_getR (x := 170) (am_cur_of (i := (122, 3, .getfield 30, (12, 25, 1409), 0)) (by decide +kernel)) (by decide +kernel) hm_z
                  replace hm_z := rn_iload_n (am_cur_of (i := (125, 1, .iload_n 1, (0, 0, 0), 0)) (by decide +kernel)) g1_z hm_z
                  replace hm_z := rn_iload_n (am_cur_of (i := (126, 1, .iload_n 2, (0, 0, 0), 0)) (by decide +kernel)) g2_z hm_z
                  replace hm_z := rn_iadd (w := 40) (am_cur_of (i := (127, 1, .iadd, (0, 0, 0), 0)) (by decide +kernel)) (by decide) hm_z
                  replace hm_z := rn_aload_n (am_cur_of (i := (128, 1, .aload_n 0, (0, 0, 0), 0)) (by decide +kernel)) g0_z hm_z
                  replace hm_z := rn_getI (v := rg_v h406_z 164 11) (am_cur_of (i := (129, 3, .getfield 188, (12, 11, 1395), 0)) (by decide +kernel)) (by decide +kernel) rfl hm_z
                  replace hm_z := rn_iastore (N := 56) (q := 40) (am_cur_of (i := (132, 1, .iastore, (0, 0, 0), 0)) (by decide +kernel)) (by decide +kernel) rfl hm_z
                  obtain ⟨p410_z, hm_z⟩ := hm_z
                  replace hm_z := rn_iinc (w := 6) (am_cur_of (i := (133, 3, .iinc 2 1, (0, 0, 0), 0)) (by decide +kernel)) g2_z (by decide) hm_z
                  obtain ⟨_, s411_z, s412_z, g2_z, hm_z⟩ := hm_z
                  replace g0_z := s411_z 0 _ (by decide) rfl g0_z
                  replace g1_z := s411_z 1 _ (by decide) rfl g1_z
                  replace g3_z := s411_z 3 _ (by decide) rfl g3_z
                  replace g4_z := s411_z 4 _ (by decide) rfl g4_z
                  clear s411_z s412_z
                  replace hm_z := rn_goto (am_cur_of (i := (136, 3, .goto (-87), (29, 0, 0), 0)) (by decide +kernel)) hm_z
                  replace hm_z := rn_iload_n (am_cur_of (i := (49, 1, .iload_n 2, (0, 0, 0), 0)) (by decide +kernel)) g2_z hm_z
                  replace hm_z := rn_bipush (w := 7) (am_cur_of (i := (50, 2, .bipush 7, (0, 0, 0), 0)) (by decide +kernel)) (by decide) hm_z
                  replace hm_z := rn_cmpF (am_cur_of (i := (52, 3, .if_icmp .ge 87, (79, 0, 0), 0)) (by decide +kernel)) (by decide) hm_z
                  replace hm_z := rn_iload_n (am_cur_of (i := (55, 1, .iload_n 2, (0, 0, 0), 0)) (by decide +kernel)) g2_z hm_z
                  replace hm_z := rn_ifF (am_cur_of (i := (56, 3, .ifCond .eq 13, (40, 0, 0), 0)) (by decide +kernel)) (by decide) hm_z
                  replace hm_z := rn_iload_n (am_cur_of (i := (59, 1, .iload_n 2, (0, 0, 0), 0)) (by decide +kernel)) g2_z hm_z
                  replace hm_z := rn_iconst (w := 2) (am_cur_of (i := (60, 1, .iconst 2, (0, 0, 0), 0)) (by decide +kernel)) (by decide) hm_z
                  replace hm_z := rn_cmpF (am_cur_of (i := (61, 3, .if_icmp .eq 8, (40, 0, 0), 0)) (by decide +kernel)) (by decide) hm_z
                  replace hm_z := rn_iload_n (am_cur_of (i := (64, 1, .iload_n 2, (0, 0, 0), 0)) (by decide +kernel)) g2_z hm_z
                  replace hm_z := rn_iconst (w := 3) (am_cur_of (i := (65, 1, .iconst 3, (0, 0, 0), 0)) (by decide +kernel)) (by decide) hm_z
                  replace hm_z := rn_cmpT (am_cur_of (i := (66, 3, .if_icmp .ne 7, (42, 0, 0), 0)) (by decide +kernel)) (by decide) hm_z
                  replace hm_z := rn_iconst (w := 0) (am_cur_of (i := (73, 1, .iconst 0, (0, 0, 0), 0)) (by decide +kernel)) (by decide) hm_z
                  replace hm_z := rn_istore_n (am_cur_of (i := (74, 1, .istore_n 3, (0, 0, 0), 0)) (by decide +kernel)) hm_z
                  obtain ⟨_, s413_z, s414_z, g3_z, hm_z⟩ := hm_z
                  replace g0_z := s413_z 0 _ (by decide) rfl g0_z
                  replace g1_z := s413_z 1 _ (by decide) rfl g1_z
                  replace g2_z := s413_z 2 _ (by decide) rfl g2_z
                  replace g4_z := s413_z 4 _ (by decide) rfl g4_z
                  clear s413_z s414_z
                  replace hm_z := rn_iload_n (am_cur_of (i := (75, 1, .iload_n 2, (0, 0, 0), 0)) (by decide +kernel)) g2_z hm_z
                  replace hm_z := rn_iconst (w := 1) (am_cur_of (i := (76, 1, .iconst 1, (0, 0, 0), 0)) (by decide +kernel)) (by decide) hm_z
                  replace hm_z := rn_cmpF (am_cur_of (i := (77, 3, .if_icmp .eq 8, (50, 0, 0), 0)) (by decide +kernel)) (by decide) hm_z
                  replace hm_z := rn_iload_n (am_cur_of (i := (80, 1, .iload_n 2, (0, 0, 0), 0)) (by decide +kernel)) g2_z hm_z
                  replace hm_z := rn_iconst (w := 2) (am_cur_of (i := (81, 1, .iconst 2, (0, 0, 0), 0)) (by decide +kernel)) (by decide) hm_z
                  replace hm_z := rn_cmpT (am_cur_of (i := (82, 3, .if_icmp .ne 8, (52, 0, 0), 0)) (by decide +kernel)) (by decide) hm_z
                  replace hm_z := rn_iload_n (am_cur_of (i := (90, 1, .iload_n 2, (0, 0, 0), 0)) (by decide +kernel)) g2_z hm_z
                  replace hm_z := rn_iconst (w := 3) (am_cur_of (i := (91, 1, .iconst 3, (0, 0, 0), 0)) (by decide +kernel)) (by decide) hm_z
                  replace hm_z := rn_cmpF (am_cur_of (i := (92, 3, .if_icmp .eq 8, (58, 0, 0), 0)) (by decide +kernel)) (by decide) hm_z
                  replace hm_z := rn_iload_n (am_cur_of (i := (95, 1, .iload_n 2, (0, 0, 0), 0)) (by decide +kernel)) g2_z hm_z
                  replace hm_z := rn_iconst (w := 5) (am_cur_of (i := (96, 1, .iconst 5, (0, 0, 0), 0)) (by decide +kernel)) (by decide) hm_z
                  replace hm_z := rn_cmpT (am_cur_of (i := (97, 3, .if_icmp .ne 8, (60, 0, 0), 0)) (by decide +kernel)) (by decide) hm_z
                  replace hm_z := rn_bipush (w := 99) (am_cur_of (i := (105, 2, .bipush 99, (0, 0, 0), 0)) (by decide +kernel)) (by decide) hm_z
                  replace hm_z := rn_istore (am_cur_of (i := (107, 2, .istore 4, (0, 0, 0), 0)) (by decide +kernel)) hm_z
                  obtain ⟨_, s415_z, s416_z, g4_z, hm_z⟩ := hm_z
                  replace g0_z := s415_z 0 _ (by decide) rfl g0_z
                  replace g1_z := s415_z 1 _ (by decide) rfl g1_z
                  replace g2_z := s415_z 2 _ (by decide) rfl g2_z
                  replace g3_z := s415_z 3 _ (by decide) rfl g3_z
                  clear s415_z s416_z
                  replace hm_z := rn_aload_n (am_cur_of (i := (109, 1, .aload_n 0, (0, 0, 0), 0)) (by decide +kernel)) g0_z hm_z
                  replace hm_z := rn_iload_n (am_cur_of (i := (110, 1, .iload_n 3, (0, 0, 0), 0)) (by decide +kernel)) g3_z hm_z
                  replace hm_z := rn_iload (am_cur_of (i := (111, 2, .iload 4, (0, 0, 0), 0)) (by decide +kernel)) g4_z hm_z
                  replace hm_z := rn_callV (M' := am_m161) (o := 164) (ar := [.int 99, .int 0]) (rest := []) (L := lv_args 0 [.ref 164, .int 0, .int 99]) (am_cur_of (i := (113, 3, .invokevirtual 197, (161, 1677, 3), 0)) (by decide +kernel)) rfl rfl rfl rfl hm_z
                  obtain ⟨r417_z, h418_z, q419_z, hm_z⟩ := hm_z
                  obtain ⟨v420_z, rfl⟩ := rn_ret (M := am_m161) rfl (by decide) q419_z
                  have K420 := kp_of (a := 161) (by decide) rfl (as := [.ref 164, .int 0, .int 99]) (ra_Sc (fun _ e => by cases e; rfl) (ra_Sc (ra_Vi) (ra_Sc (ra_Vi) ra_S0))) q419_z
                  have z420_z := zM_t (zM_u (o := 170) (k := 40) (by decide) z408_z) K420.1
                  have e17_420 : rg_v h418_z 164 17 = 1 := (K420.2 17 (by decide)).trans (show rg_v (am_up h406_z 170 40 (.int (rg_v h406_z 164 11))) 164 17 = 1 from e17_408)
                  have e18_420 : rg_v h418_z 164 18 = ct := (K420.2 18 (by decide)).trans (show rg_v (am_up h406_z 170 40 (.int (rg_v h406_z 164 11))) 164 18 = ct from e18_408)
                  have e19_420 : rg_v h418_z 164 19 = cl := (K420.2 19 (by decide)).trans (show rg_v (am_up h406_z 170 40 (.int (rg_v h406_z 164 11))) 164 19 = cl from e19_408)
                  have e20_420 : rg_v h418_z 164 20 = cq := (K420.2 20 (by decide)).trans (show rg_v (am_up h406_z 170 40 (.int (rg_v h406_z 164 11))) 164 20 = cq from e20_408)
                  replace hm_z : rn _ _ _ _ [.int v420_z] _ _ _ := hm_z
                  replace hm_z := rn_if (am_cur_of (i := (116, 3, .ifCond .ne 5, (69, 0, 0), 0)) (by decide +kernel)) hm_z
                  rcases hm_z with ⟨b421_z, hm_z⟩ | ⟨b421_z, hm_z⟩
                  · replace b421_z : ¬ v420_z = (0 : Int32) ∧ ¬ v420_z.toInt = (0 : Int32).toInt := b421_z
                    replace hm_z := rn_aload_n (am_cur_of (i := (121, 1, .aload_n 0, (0, 0, 0), 0)) (by decide +kernel)) g0_z hm_z
                    replace hm_z := rn_getR (x := 170) (am_cur_of (i := (122, 3, .getfield 30, (12, 25, 1409), 0)) (by decide +kernel)) (by decide +kernel) hm_z
                    replace hm_z := rn_iload_n (am_cur_of (i := (125, 1, .iload_n 1, (0, 0, 0), 0)) (by decide +kernel)) g1_z hm_z
                    replace hm_z := rn_iload_n (am_cur_of (i := (126, 1, .iload_n 2, (0, 0, 0), 0)) (by decide +kernel)) g2_z hm_z
                    replace hm_z := rn_iadd (w := 41) (am_cur_of (i := (127, 1, .iadd, (0, 0, 0), 0)) (by decide +kernel)) (by decide) hm_z
                    replace hm_z := rn_aload_n (am_cur_of (i := (128, 1, .aload_n 0, (0, 0, 0), 0)) (by decide +kernel)) g0_z hm_z
                    replace hm_z := rn_getI (v := rg_v h418_z 164 11) (am_cur_of (i := (129, 3, .getfield 188, (12, 11, 1395), 0)) (by decide +kernel)) (by decide +kernel) rfl hm_z
                    replace hm_z := rn_iastore (N := 56) (q := 41) (am_cur_of (i := (132, 1, .iastore, (0, 0, 0), 0)) (by decide +kernel)) (by decide +kernel) rfl hm_z
                    obtain ⟨p422_z, hm_z⟩ := hm_z
                    replace hm_z := rn_iinc (w := 7) (am_cur_of (i := (133, 3, .iinc 2 1, (0, 0, 0), 0)) (by decide +kernel)) g2_z (by decide) hm_z
                    obtain ⟨_, s423_z, s424_z, g2_z, hm_z⟩ := hm_z
                    replace g0_z := s423_z 0 _ (by decide) rfl g0_z
                    replace g1_z := s423_z 1 _ (by decide) rfl g1_z
                    replace g3_z := s423_z 3 _ (by decide) rfl g3_z
                    replace g4_z := s423_z 4 _ (by decide) rfl g4_z
                    clear s423_z s424_z
                    replace hm_z := rn_goto (am_cur_of (i := (136, 3, .goto (-87), (29, 0, 0), 0)) (by decide +kernel)) hm_z
                    replace hm_z := rn_iload_n (am_cur_of (i := (49, 1, .iload_n 2, (0, 0, 0), 0)) (by decide +kernel)) g2_z hm_z
                    replace hm_z := rn_bipush (w := 7) (am_cur_of (i := (50, 2, .bipush 7, (0, 0, 0), 0)) (by decide +kernel)) (by decide) hm_z
                    replace hm_z := rn_cmpT (am_cur_of (i := (52, 3, .if_icmp .ge 87, (79, 0, 0), 0)) (by decide +kernel)) (by decide) hm_z
                    replace hm_z := rn_aload_n (am_cur_of (i := (139, 1, .aload_n 0, (0, 0, 0), 0)) (by decide +kernel)) g0_z hm_z
                    replace hm_z := rn_dup (am_cur_of (i := (140, 1, .dup, (0, 0, 0), 0)) (by decide +kernel)) hm_z
                    replace hm_z := rn_getI (v := 1) (am_cur_of (i := (141, 3, .getfield 201, (12, 17, 1401), 0)) (by decide +kernel)) (by decide +kernel) (show rg_v (am_up h418_z 170 41 (.int (rg_v h418_z 164 11))) 164 17 = 1 from e17_420) hm_z
                    replace hm_z := rn_iconst (w := 1) (am_cur_of (i := (144, 1, .iconst 1, (0, 0, 0), 0)) (by decide +kernel)) (by decide) hm_z
                    replace hm_z := rn_iadd (w := 2) (am_cur_of (i := (145, 1, .iadd, (0, 0, 0), 0)) (by decide +kernel)) (by decide) hm_z
                    replace hm_z := rn_put (am_cur_of (i := (146, 3, .putfield 201, (12, 17, 1401), 0)) (by decide +kernel)) (by decide +kernel) hm_z
                    replace hm_z := rn_iconst (w := 1) (am_cur_of (i := (149, 1, .iconst 1, (0, 0, 0), 0)) (by decide +kernel)) (by decide) hm_z
                    replace hm_z := rn_iret (am_cur_of (i := (150, 1, .ireturn, (0, 0, 0), 0)) (by decide +kernel)) hm_z
                    obtain ⟨e425_z, e426_z⟩ := hm_z
                    rw [e426_z]
                    exact ⟨(zM_u (o := 164) (k := 17) (by decide) (zM_u (o := 170) (k := 41) (by decide) z420_z)), ⟨by rw [show rg_v (am_up (am_up h418_z 170 41 (.int (rg_v h418_z 164 11))) 164 17 (.int 2)) 164 17 = 2 from (show rg_v (am_up (am_up h418_z 170 41 (.int (rg_v h418_z 164 11))) 164 17 (.int 2)) 164 17 = 2 from rfl)]; omega, by rw [show rg_v (am_up (am_up h418_z 170 41 (.int (rg_v h418_z 164 11))) 164 17 (.int 2)) 164 17 = 2 from (show rg_v (am_up (am_up h418_z 170 41 (.int (rg_v h418_z 164 11))) 164 17 (.int 2)) 164 17 = 2 from rfl)]; omega⟩, ⟨by rw [show rg_v (am_up (am_up h418_z 170 41 (.int (rg_v h418_z 164 11))) 164 17 (.int 2)) 164 18 = ct from (show rg_v (am_up (am_up h418_z 170 41 (.int (rg_v h418_z 164 11))) 164 17 (.int 2)) 164 18 = ct from e18_420)]; omega, by rw [show rg_v (am_up (am_up h418_z 170 41 (.int (rg_v h418_z 164 11))) 164 17 (.int 2)) 164 18 = ct from (show rg_v (am_up (am_up h418_z 170 41 (.int (rg_v h418_z 164 11))) 164 17 (.int 2)) 164 18 = ct from e18_420)]; omega⟩, ⟨by rw [show rg_v (am_up (am_up h418_z 170 41 (.int (rg_v h418_z 164 11))) 164 17 (.int 2)) 164 19 = cl from (show rg_v (am_up (am_up h418_z 170 41 (.int (rg_v h418_z 164 11))) 164 17 (.int 2)) 164 19 = cl from e19_420)]; omega, by rw [show rg_v (am_up (am_up h418_z 170 41 (.int (rg_v h418_z 164 11))) 164 17 (.int 2)) 164 19 = cl from (show rg_v (am_up (am_up h418_z 170 41 (.int (rg_v h418_z 164 11))) 164 17 (.int 2)) 164 19 = cl from e19_420)]; omega⟩, ⟨by rw [show rg_v (am_up (am_up h418_z 170 41 (.int (rg_v h418_z 164 11))) 164 17 (.int 2)) 164 20 = cq from (show rg_v (am_up (am_up h418_z 170 41 (.int (rg_v h418_z 164 11))) 164 17 (.int 2)) 164 20 = cq from e20_420)]; omega, by rw [show rg_v (am_up (am_up h418_z 170 41 (.int (rg_v h418_z 164 11))) 164 17 (.int 2)) 164 20 = cq from (show rg_v (am_up (am_up h418_z 170 41 (.int (rg_v h418_z 164 11))) 164 17 (.int 2)) 164 20 = cq from e20_420)]; omega⟩⟩
                  · replace b421_z : v420_z = (0 : Int32) ∧ v420_z.toInt = (0 : Int32).toInt := b421_z
                    replace hm_z := rn_iconst (w := 0) (am_cur_of (i := (119, 1, .iconst 0, (0, 0, 0), 0)) (by decide +kernel)) (by decide) hm_z
                    replace hm_z := rn_iret (am_cur_of (i := (120, 1, .ireturn, (0, 0, 0), 0)) (by decide +kernel)) hm_z
                    obtain ⟨e427_z, e428_z⟩ := hm_z
                    rw [e428_z]
                    exact ⟨z420_z, ⟨by rw [show rg_v h418_z 164 17 = 1 from e17_420]; omega, by rw [show rg_v h418_z 164 17 = 1 from e17_420]; omega⟩, ⟨by rw [show rg_v h418_z 164 18 = ct from e18_420]; omega, by rw [show rg_v h418_z 164 18 = ct from e18_420]; omega⟩, ⟨by rw [show rg_v h418_z 164 19 = cl from e19_420]; omega, by rw [show rg_v h418_z 164 19 = cl from e19_420]; omega⟩, ⟨by rw [show rg_v h418_z 164 20 = cq from e20_420]; omega, by rw [show rg_v h418_z 164 20 = cq from e20_420]; omega⟩⟩
                · replace b409_z : v408_z = (0 : Int32) ∧ v408_z.toInt = (0 : Int32).toInt := b409_z
                  replace hm_z := rn_iconst (w := 0) (am_cur_of (i := (119, 1, .iconst 0, (0, 0, 0), 0)) (by decide +kernel)) (by decide) hm_z
                  replace hm_z := rn_iret (am_cur_of (i := (120, 1, .ireturn, (0, 0, 0), 0)) (by decide +kernel)) hm_z
                  obtain ⟨e429_z, e430_z⟩ := hm_z
                  rw [e430_z]
                  exact ⟨z408_z, ⟨by rw [show rg_v h406_z 164 17 = 1 from e17_408]; omega, by rw [show rg_v h406_z 164 17 = 1 from e17_408]; omega⟩, ⟨by rw [show rg_v h406_z 164 18 = ct from e18_408]; omega, by rw [show rg_v h406_z 164 18 = ct from e18_408]; omega⟩, ⟨by rw [show rg_v h406_z 164 19 = cl from e19_408]; omega, by rw [show rg_v h406_z 164 19 = cl from e19_408]; omega⟩, ⟨by rw [show rg_v h406_z 164 20 = cq from e20_408]; omega, by rw [show rg_v h406_z 164 20 = cq from e20_408]; omega⟩⟩
              · replace b397_z : v396_z = (0 : Int32) ∧ v396_z.toInt = (0 : Int32).toInt := b397_z
                replace hm_z := rn_iconst (w := 0) (am_cur_of (i := (119, 1, .iconst 0, (0, 0, 0), 0)) (by decide +kernel)) (by decide) hm_z
                replace hm_z := rn_iret (am_cur_of (i := (120, 1, .ireturn, (0, 0, 0), 0)) (by decide +kernel)) hm_z
                obtain ⟨e431_z, e432_z⟩ := hm_z
                rw [e432_z]
                exact ⟨z396_z, ⟨by rw [show rg_v h394_z 164 17 = 1 from e17_396]; omega, by rw [show rg_v h394_z 164 17 = 1 from e17_396]; omega⟩, ⟨by rw [show rg_v h394_z 164 18 = ct from e18_396]; omega, by rw [show rg_v h394_z 164 18 = ct from e18_396]; omega⟩, ⟨by rw [show rg_v h394_z 164 19 = cl from e19_396]; omega, by rw [show rg_v h394_z 164 19 = cl from e19_396]; omega⟩, ⟨by rw [show rg_v h394_z 164 20 = cq from e20_396]; omega, by rw [show rg_v h394_z 164 20 = cq from e20_396]; omega⟩⟩
            · replace b385_z : v384_z = (0 : Int32) ∧ v384_z.toInt = (0 : Int32).toInt := b385_z
              replace hm_z := rn_iconst (w := 0) (am_cur_of (i := (119, 1, .iconst 0, (0, 0, 0), 0)) (by decide +kernel)) (by decide) hm_z
              replace hm_z := rn_iret (am_cur_of (i := (120, 1, .ireturn, (0, 0, 0), 0)) (by decide +kernel)) hm_z
              obtain ⟨e433_z, e434_z⟩ := hm_z
              rw [e434_z]
              exact ⟨z384_z, ⟨by rw [show rg_v h382_z 164 17 = 1 from e17_384]; omega, by rw [show rg_v h382_z 164 17 = 1 from e17_384]; omega⟩, ⟨by rw [show rg_v h382_z 164 18 = ct from e18_384]; omega, by rw [show rg_v h382_z 164 18 = ct from e18_384]; omega⟩, ⟨by rw [show rg_v h382_z 164 19 = cl from e19_384]; omega, by rw [show rg_v h382_z 164 19 = cl from e19_384]; omega⟩, ⟨by rw [show rg_v h382_z 164 20 = cq from e20_384]; omega, by rw [show rg_v h382_z 164 20 = cq from e20_384]; omega⟩⟩
          · replace b373_z : v372_z = (0 : Int32) ∧ v372_z.toInt = (0 : Int32).toInt := b373_z
            replace hm_z := rn_iconst (w := 0) (am_cur_of (i := (119, 1, .iconst 0, (0, 0, 0), 0)) (by decide +kernel)) (by decide) hm_z
            replace hm_z := rn_iret (am_cur_of (i := (120, 1, .ireturn, (0, 0, 0), 0)) (by decide +kernel)) hm_z
            obtain ⟨e435_z, e436_z⟩ := hm_z
            rw [e436_z]
            exact ⟨z372_z, ⟨by rw [show rg_v h370_z 164 17 = 1 from e17_372]; omega, by rw [show rg_v h370_z 164 17 = 1 from e17_372]; omega⟩, ⟨by rw [show rg_v h370_z 164 18 = ct from e18_372]; omega, by rw [show rg_v h370_z 164 18 = ct from e18_372]; omega⟩, ⟨by rw [show rg_v h370_z 164 19 = cl from e19_372]; omega, by rw [show rg_v h370_z 164 19 = cl from e19_372]; omega⟩, ⟨by rw [show rg_v h370_z 164 20 = cq from e20_372]; omega, by rw [show rg_v h370_z 164 20 = cq from e20_372]; omega⟩⟩
        · replace b361_z : v360_z = (0 : Int32) ∧ v360_z.toInt = (0 : Int32).toInt := b361_z
          replace hm_z := rn_iconst (w := 0) (am_cur_of (i := (119, 1, .iconst 0, (0, 0, 0), 0)) (by decide +kernel)) (by decide) hm_z
          replace hm_z := rn_iret (am_cur_of (i := (120, 1, .ireturn, (0, 0, 0), 0)) (by decide +kernel)) hm_z
          obtain ⟨e437_z, e438_z⟩ := hm_z
          rw [e438_z]
          exact ⟨z360_z, ⟨by rw [show rg_v h358_z 164 17 = 1 from e17_360]; omega, by rw [show rg_v h358_z 164 17 = 1 from e17_360]; omega⟩, ⟨by rw [show rg_v h358_z 164 18 = ct from e18_360]; omega, by rw [show rg_v h358_z 164 18 = ct from e18_360]; omega⟩, ⟨by rw [show rg_v h358_z 164 19 = cl from e19_360]; omega, by rw [show rg_v h358_z 164 19 = cl from e19_360]; omega⟩, ⟨by rw [show rg_v h358_z 164 20 = cq from e20_360]; omega, by rw [show rg_v h358_z 164 20 = cq from e20_360]; omega⟩⟩
      · replace b349_z : v348_z = (0 : Int32) ∧ v348_z.toInt = (0 : Int32).toInt := b349_z
        replace hm_z := rn_iconst (w := 0) (am_cur_of (i := (119, 1, .iconst 0, (0, 0, 0), 0)) (by decide +kernel)) (by decide) hm_z
        replace hm_z := rn_iret (am_cur_of (i := (120, 1, .ireturn, (0, 0, 0), 0)) (by decide +kernel)) hm_z
        obtain ⟨e439_z, e440_z⟩ := hm_z
        rw [e440_z]
        exact ⟨z348_z, ⟨by rw [show rg_v h346_z 164 17 = 1 from e17_348]; omega, by rw [show rg_v h346_z 164 17 = 1 from e17_348]; omega⟩, ⟨by rw [show rg_v h346_z 164 18 = ct from e18_348]; omega, by rw [show rg_v h346_z 164 18 = ct from e18_348]; omega⟩, ⟨by rw [show rg_v h346_z 164 19 = cl from e19_348]; omega, by rw [show rg_v h346_z 164 19 = cl from e19_348]; omega⟩, ⟨by rw [show rg_v h346_z 164 20 = cq from e20_348]; omega, by rw [show rg_v h346_z 164 20 = cq from e20_348]; omega⟩⟩
    · replace b336_z : v335_z = (0 : Int32) ∧ v335_z.toInt = (0 : Int32).toInt := b336_z
      replace hm_z := rn_iconst (w := 0) (am_cur_of (i := (34, 1, .iconst 0, (0, 0, 0), 0)) (by decide +kernel)) (by decide) hm_z
      replace hm_z := rn_iret (am_cur_of (i := (35, 1, .ireturn, (0, 0, 0), 0)) (by decide +kernel)) hm_z
      obtain ⟨e441_z, e442_z⟩ := hm_z
      rw [e442_z]
      exact ⟨z335_z, ⟨by rw [show rg_v h333_z 164 17 = 1 from e17_335]; omega, by rw [show rg_v h333_z 164 17 = 1 from e17_335]; omega⟩, ⟨by rw [show rg_v h333_z 164 18 = ct from e18_335]; omega, by rw [show rg_v h333_z 164 18 = ct from e18_335]; omega⟩, ⟨by rw [show rg_v h333_z 164 19 = cl from e19_335]; omega, by rw [show rg_v h333_z 164 19 = cl from e19_335]; omega⟩, ⟨by rw [show rg_v h333_z 164 20 = cq from e20_335]; omega, by rw [show rg_v h333_z 164 20 = cq from e20_335]; omega⟩⟩
  · replace hm_z := rn_aload_n (am_cur_of (i := (0, 1, .aload_n 0, (0, 0, 0), 0)) (by decide +kernel)) g0_z hm_z
    replace hm_z := rn_getI (v := 2) (am_cur_of (i := (1, 3, .getfield 201, (12, 17, 1401), 0)) (by decide +kernel)) (by decide +kernel) ecb hm_z
    replace hm_z := rn_iconst (w := 4) (am_cur_of (i := (4, 1, .iconst 4, (0, 0, 0), 0)) (by decide +kernel)) (by decide) hm_z
    replace hm_z := rn_cmpT (am_cur_of (i := (5, 3, .if_icmp .ne 9, (8, 0, 0), 0)) (by decide +kernel)) (by decide) hm_z
    replace hm_z := rn_aload_n (am_cur_of (i := (14, 1, .aload_n 0, (0, 0, 0), 0)) (by decide +kernel)) g0_z hm_z
    replace hm_z := rn_callV (M' := am_m151) (o := 164) (ar := []) (rest := []) (L := lv_args 0 [.ref 164]) (am_cur_of (i := (15, 3, .invokevirtual 191, (151, 1636, 3), 0)) (by decide +kernel)) rfl rfl rfl rfl hm_z
    obtain ⟨r443_z, h444_z, q445_z, hm_z⟩ := hm_z
    have vo := rn_void rfl q445_z
    subst vo
    have K446 := kp_of (a := 151) (by decide) rfl (as := [.ref 164]) (ra_Sc (fun _ e => by cases e; rfl) ra_S0) q445_z
    have z446_z := zM_t zM_r K446.1
    have e17_446 : rg_v h444_z 164 17 = 2 := (K446.2 17 (by decide)).trans ecb
    have e18_446 : rg_v h444_z 164 18 = ct := (K446.2 18 (by decide)).trans ect
    have e19_446 : rg_v h444_z 164 19 = cl := (K446.2 19 (by decide)).trans ecl
    have e20_446 : rg_v h444_z 164 20 = cq := (K446.2 20 (by decide)).trans ecq
    replace hm_z : rn _ _ _ _ [] _ _ _ := hm_z
    replace hm_z := rn_aload_n (am_cur_of (i := (18, 1, .aload_n 0, (0, 0, 0), 0)) (by decide +kernel)) g0_z hm_z
    replace hm_z := rn_aload_n (am_cur_of (i := (19, 1, .aload_n 0, (0, 0, 0), 0)) (by decide +kernel)) g0_z hm_z
    replace hm_z := rn_getR (x := 169) (am_cur_of (i := (20, 3, .getfield 27, (12, 24, 1408), 0)) (by decide +kernel)) (by decide +kernel) hm_z
    replace hm_z := rn_iconst (w := 4) (am_cur_of (i := (23, 1, .iconst 4, (0, 0, 0), 0)) (by decide +kernel)) (by decide) hm_z
    replace hm_z := rn_aload_n (am_cur_of (i := (24, 1, .aload_n 0, (0, 0, 0), 0)) (by decide +kernel)) g0_z hm_z
    replace hm_z := rn_getI (v := 2) (am_cur_of (i := (25, 3, .getfield 201, (12, 17, 1401), 0)) (by decide +kernel)) (by decide +kernel) e17_446 hm_z
    replace hm_z := rn_callV (M' := am_m164) (o := 164) (ar := [.int 2, .int 4, .ref 169]) (rest := []) (L := lv_args 0 [.ref 164, .ref 169, .int 4, .int 2]) (am_cur_of (i := (28, 3, .invokevirtual 248, (164, 1688, 3), 0)) (by decide +kernel)) rfl rfl rfl rfl hm_z
    obtain ⟨r447_z, h448_z, q449_z, hm_z⟩ := hm_z
    obtain ⟨v450_z, rfl⟩ := rn_ret (M := am_m164) rfl (by decide) q449_z
    obtain ⟨aK450, bK450, cK450, dK450, fK450⟩ := mz_newB (by omega) (by omega) q449_z
    have K450 : zM _ _ ∧ ∀ k, (k = 17 ∨ k = 18 ∨ k = 19 ∨ k = 20) → rg_v _ 164 k = rg_v _ 164 k := ⟨aK450, fun k hk_z => by rcases hk_z with rfl | rfl | rfl | rfl <;> assumption⟩
    have z450_z := zM_t z446_z K450.1
    have e17_450 : rg_v h448_z 164 17 = 2 := (K450.2 17 (by decide)).trans e17_446
    have e18_450 : rg_v h448_z 164 18 = ct := (K450.2 18 (by decide)).trans e18_446
    have e19_450 : rg_v h448_z 164 19 = cl := (K450.2 19 (by decide)).trans e19_446
    have e20_450 : rg_v h448_z 164 20 = cq := (K450.2 20 (by decide)).trans e20_446
    replace hm_z : rn _ _ _ _ [.int v450_z] _ _ _ := hm_z
    replace hm_z := rn_if (am_cur_of (i := (31, 3, .ifCond .ne 5, (20, 0, 0), 0)) (by decide +kernel)) hm_z
    rcases hm_z with ⟨b451_z, hm_z⟩ | ⟨b451_z, hm_z⟩
    · replace b451_z : ¬ v450_z = (0 : Int32) ∧ ¬ v450_z.toInt = (0 : Int32).toInt := b451_z
      replace hm_z := rn_bipush (w := 28) (am_cur_of (i := (36, 2, .bipush 28, (0, 0, 0), 0)) (by decide +kernel)) (by decide) hm_z
      replace hm_z := rn_bipush (w := 7) (am_cur_of (i := (38, 2, .bipush 7, (0, 0, 0), 0)) (by decide +kernel)) (by decide) hm_z
      replace hm_z := rn_aload_n (am_cur_of (i := (40, 1, .aload_n 0, (0, 0, 0), 0)) (by decide +kernel)) g0_z hm_z
      replace hm_z := rn_getI (v := 2) (am_cur_of (i := (41, 3, .getfield 201, (12, 17, 1401), 0)) (by decide +kernel)) (by decide +kernel) e17_450 hm_z
      replace hm_z := rn_imul (w := 14) (am_cur_of (i := (44, 1, .imul, (0, 0, 0), 0)) (by decide +kernel)) (by decide) hm_z
      replace hm_z := rn_iadd (w := 42) (am_cur_of (i := (45, 1, .iadd, (0, 0, 0), 0)) (by decide +kernel)) (by decide) hm_z
      replace hm_z := rn_istore_n (am_cur_of (i := (46, 1, .istore_n 1, (0, 0, 0), 0)) (by decide +kernel)) hm_z
      obtain ⟨_, s452_z, s453_z, g1_z, hm_z⟩ := hm_z
      replace g0_z := s452_z 0 _ (by decide) rfl g0_z
      clear s452_z s453_z
      replace hm_z := rn_iconst (w := 0) (am_cur_of (i := (47, 1, .iconst 0, (0, 0, 0), 0)) (by decide +kernel)) (by decide) hm_z
      replace hm_z := rn_istore_n (am_cur_of (i := (48, 1, .istore_n 2, (0, 0, 0), 0)) (by decide +kernel)) hm_z
      obtain ⟨_, s454_z, s455_z, g2_z, hm_z⟩ := hm_z
      replace g0_z := s454_z 0 _ (by decide) rfl g0_z
      replace g1_z := s454_z 1 _ (by decide) rfl g1_z
      clear s454_z s455_z
      replace hm_z := rn_iload_n (am_cur_of (i := (49, 1, .iload_n 2, (0, 0, 0), 0)) (by decide +kernel)) g2_z hm_z
      replace hm_z := rn_bipush (w := 7) (am_cur_of (i := (50, 2, .bipush 7, (0, 0, 0), 0)) (by decide +kernel)) (by decide) hm_z
      replace hm_z := rn_cmpF (am_cur_of (i := (52, 3, .if_icmp .ge 87, (79, 0, 0), 0)) (by decide +kernel)) (by decide) hm_z
      replace hm_z := rn_iload_n (am_cur_of (i := (55, 1, .iload_n 2, (0, 0, 0), 0)) (by decide +kernel)) g2_z hm_z
      replace hm_z := rn_ifT (am_cur_of (i := (56, 3, .ifCond .eq 13, (40, 0, 0), 0)) (by decide +kernel)) (by decide) hm_z
      replace hm_z := rn_iconst (w := 1) (am_cur_of (i := (69, 1, .iconst 1, (0, 0, 0), 0)) (by decide +kernel)) (by decide) hm_z
      replace hm_z := rn_goto (am_cur_of (i := (70, 3, .goto 4, (43, 0, 0), 0)) (by decide +kernel)) hm_z
      replace hm_z := rn_istore_n (am_cur_of (i := (74, 1, .istore_n 3, (0, 0, 0), 0)) (by decide +kernel)) hm_z
      obtain ⟨_, s456_z, s457_z, g3_z, hm_z⟩ := hm_z
      replace g0_z := s456_z 0 _ (by decide) rfl g0_z
      replace g1_z := s456_z 1 _ (by decide) rfl g1_z
      replace g2_z := s456_z 2 _ (by decide) rfl g2_z
      clear s456_z s457_z
      replace hm_z := rn_iload_n (am_cur_of (i := (75, 1, .iload_n 2, (0, 0, 0), 0)) (by decide +kernel)) g2_z hm_z
      replace hm_z := rn_iconst (w := 1) (am_cur_of (i := (76, 1, .iconst 1, (0, 0, 0), 0)) (by decide +kernel)) (by decide) hm_z
      replace hm_z := rn_cmpF (am_cur_of (i := (77, 3, .if_icmp .eq 8, (50, 0, 0), 0)) (by decide +kernel)) (by decide) hm_z
      replace hm_z := rn_iload_n (am_cur_of (i := (80, 1, .iload_n 2, (0, 0, 0), 0)) (by decide +kernel)) g2_z hm_z
      replace hm_z := rn_iconst (w := 2) (am_cur_of (i := (81, 1, .iconst 2, (0, 0, 0), 0)) (by decide +kernel)) (by decide) hm_z
      replace hm_z := rn_cmpT (am_cur_of (i := (82, 3, .if_icmp .ne 8, (52, 0, 0), 0)) (by decide +kernel)) (by decide) hm_z
      replace hm_z := rn_iload_n (am_cur_of (i := (90, 1, .iload_n 2, (0, 0, 0), 0)) (by decide +kernel)) g2_z hm_z
      replace hm_z := rn_iconst (w := 3) (am_cur_of (i := (91, 1, .iconst 3, (0, 0, 0), 0)) (by decide +kernel)) (by decide) hm_z
      replace hm_z := rn_cmpF (am_cur_of (i := (92, 3, .if_icmp .eq 8, (58, 0, 0), 0)) (by decide +kernel)) (by decide) hm_z
      replace hm_z := rn_iload_n (am_cur_of (i := (95, 1, .iload_n 2, (0, 0, 0), 0)) (by decide +kernel)) g2_z hm_z
      replace hm_z := rn_iconst (w := 5) (am_cur_of (i := (96, 1, .iconst 5, (0, 0, 0), 0)) (by decide +kernel)) (by decide) hm_z
      replace hm_z := rn_cmpT (am_cur_of (i := (97, 3, .if_icmp .ne 8, (60, 0, 0), 0)) (by decide +kernel)) (by decide) hm_z
      replace hm_z := rn_bipush (w := 99) (am_cur_of (i := (105, 2, .bipush 99, (0, 0, 0), 0)) (by decide +kernel)) (by decide) hm_z
      replace hm_z := rn_istore (am_cur_of (i := (107, 2, .istore 4, (0, 0, 0), 0)) (by decide +kernel)) hm_z
      obtain ⟨_, s458_z, s459_z, g4_z, hm_z⟩ := hm_z
      replace g0_z := s458_z 0 _ (by decide) rfl g0_z
      replace g1_z := s458_z 1 _ (by decide) rfl g1_z
      replace g2_z := s458_z 2 _ (by decide) rfl g2_z
      replace g3_z := s458_z 3 _ (by decide) rfl g3_z
      clear s458_z s459_z
      replace hm_z := rn_aload_n (am_cur_of (i := (109, 1, .aload_n 0, (0, 0, 0), 0)) (by decide +kernel)) g0_z hm_z
      replace hm_z := rn_iload_n (am_cur_of (i := (110, 1, .iload_n 3, (0, 0, 0), 0)) (by decide +kernel)) g3_z hm_z
      replace hm_z := rn_iload (am_cur_of (i := (111, 2, .iload 4, (0, 0, 0), 0)) (by decide +kernel)) g4_z hm_z
      replace hm_z := rn_callV (M' := am_m161) (o := 164) (ar := [.int 99, .int 1]) (rest := []) (L := lv_args 0 [.ref 164, .int 1, .int 99]) (am_cur_of (i := (113, 3, .invokevirtual 197, (161, 1677, 3), 0)) (by decide +kernel)) rfl rfl rfl rfl hm_z
      obtain ⟨r460_z, h461_z, q462_z, hm_z⟩ := hm_z
      obtain ⟨v463_z, rfl⟩ := rn_ret (M := am_m161) rfl (by decide) q462_z
      have K463 := kp_of (a := 161) (by decide) rfl (as := [.ref 164, .int 1, .int 99]) (ra_Sc (fun _ e => by cases e; rfl) (ra_Sc (ra_Vi) (ra_Sc (ra_Vi) ra_S0))) q462_z
      have z463_z := zM_t z450_z K463.1
      have e17_463 : rg_v h461_z 164 17 = 2 := (K463.2 17 (by decide)).trans e17_450
      have e18_463 : rg_v h461_z 164 18 = ct := (K463.2 18 (by decide)).trans e18_450
      have e19_463 : rg_v h461_z 164 19 = cl := (K463.2 19 (by decide)).trans e19_450
      have e20_463 : rg_v h461_z 164 20 = cq := (K463.2 20 (by decide)).trans e20_450
      replace hm_z : rn _ _ _ _ [.int v463_z] _ _ _ := hm_z
      replace hm_z := rn_if (am_cur_of (i := (116, 3, .ifCond .ne 5, (69, 0, 0), 0)) (by decide +kernel)) hm_z
      rcases hm_z with ⟨b464_z, hm_z⟩ | ⟨b464_z, hm_z⟩
      · replace b464_z : ¬ v463_z = (0 : Int32) ∧ ¬ v463_z.toInt = (0 : Int32).toInt := b464_z
        replace hm_z := rn_aload_n (am_cur_of (i := (121, 1, .aload_n 0, (0, 0, 0), 0)) (by decide +kernel)) g0_z hm_z
        replace hm_z := rn_getR (x := 170) (am_cur_of (i := (122, 3, .getfield 30, (12, 25, 1409), 0)) (by decide +kernel)) (by decide +kernel) hm_z
        replace hm_z := rn_iload_n (am_cur_of (i := (125, 1, .iload_n 1, (0, 0, 0), 0)) (by decide +kernel)) g1_z hm_z
        replace hm_z := rn_iload_n (am_cur_of (i := (126, 1, .iload_n 2, (0, 0, 0), 0)) (by decide +kernel)) g2_z hm_z
        replace hm_z := rn_iadd (w := 42) (am_cur_of (i := (127, 1, .iadd, (0, 0, 0), 0)) (by decide +kernel)) (by decide) hm_z
        replace hm_z := rn_aload_n (am_cur_of (i := (128, 1, .aload_n 0, (0, 0, 0), 0)) (by decide +kernel)) g0_z hm_z
        replace hm_z := rn_getI (v := rg_v h461_z 164 11) (am_cur_of (i := (129, 3, .getfield 188, (12, 11, 1395), 0)) (by decide +kernel)) (by decide +kernel) rfl hm_z
        replace hm_z := rn_iastore (N := 56) (q := 42) (am_cur_of (i := (132, 1, .iastore, (0, 0, 0), 0)) (by decide +kernel)) (by decide +kernel) rfl hm_z
        obtain ⟨p465_z, hm_z⟩ := hm_z
        replace hm_z := rn_iinc (w := 1) (am_cur_of (i := (133, 3, .iinc 2 1, (0, 0, 0), 0)) (by decide +kernel)) g2_z (by decide) hm_z
        obtain ⟨_, s466_z, s467_z, g2_z, hm_z⟩ := hm_z
        replace g0_z := s466_z 0 _ (by decide) rfl g0_z
        replace g1_z := s466_z 1 _ (by decide) rfl g1_z
        replace g3_z := s466_z 3 _ (by decide) rfl g3_z
        replace g4_z := s466_z 4 _ (by decide) rfl g4_z
        clear s466_z s467_z
        replace hm_z := rn_goto (am_cur_of (i := (136, 3, .goto (-87), (29, 0, 0), 0)) (by decide +kernel)) hm_z
        replace hm_z := rn_iload_n (am_cur_of (i := (49, 1, .iload_n 2, (0, 0, 0), 0)) (by decide +kernel)) g2_z hm_z
        replace hm_z := rn_bipush (w := 7) (am_cur_of (i := (50, 2, .bipush 7, (0, 0, 0), 0)) (by decide +kernel)) (by decide) hm_z
        replace hm_z := rn_cmpF (am_cur_of (i := (52, 3, .if_icmp .ge 87, (79, 0, 0), 0)) (by decide +kernel)) (by decide) hm_z
        replace hm_z := rn_iload_n (am_cur_of (i := (55, 1, .iload_n 2, (0, 0, 0), 0)) (by decide +kernel)) g2_z hm_z
        replace hm_z := rn_ifF (am_cur_of (i := (56, 3, .ifCond .eq 13, (40, 0, 0), 0)) (by decide +kernel)) (by decide) hm_z
        replace hm_z := rn_iload_n (am_cur_of (i := (59, 1, .iload_n 2, (0, 0, 0), 0)) (by decide +kernel)) g2_z hm_z
        replace hm_z := rn_iconst (w := 2) (am_cur_of (i := (60, 1, .iconst 2, (0, 0, 0), 0)) (by decide +kernel)) (by decide) hm_z
        replace hm_z := rn_cmpF (am_cur_of (i := (61, 3, .if_icmp .eq 8, (40, 0, 0), 0)) (by decide +kernel)) (by decide) hm_z
        replace hm_z := rn_iload_n (am_cur_of (i := (64, 1, .iload_n 2, (0, 0, 0), 0)) (by decide +kernel)) g2_z hm_z
        replace hm_z := rn_iconst (w := 3) (am_cur_of (i := (65, 1, .iconst 3, (0, 0, 0), 0)) (by decide +kernel)) (by decide) hm_z
        replace hm_z := rn_cmpT (am_cur_of (i := (66, 3, .if_icmp .ne 7, (42, 0, 0), 0)) (by decide +kernel)) (by decide) hm_z
        replace hm_z := rn_iconst (w := 0) (am_cur_of (i := (73, 1, .iconst 0, (0, 0, 0), 0)) (by decide +kernel)) (by decide) hm_z
        replace hm_z := rn_istore_n (am_cur_of (i := (74, 1, .istore_n 3, (0, 0, 0), 0)) (by decide +kernel)) hm_z
        obtain ⟨_, s468_z, s469_z, g3_z, hm_z⟩ := hm_z
        replace g0_z := s468_z 0 _ (by decide) rfl g0_z
        replace g1_z := s468_z 1 _ (by decide) rfl g1_z
        replace g2_z := s468_z 2 _ (by decide) rfl g2_z
        replace g4_z := s468_z 4 _ (by decide) rfl g4_z
        clear s468_z s469_z
        replace hm_z := rn_iload_n (am_cur_of (i := (75, 1, .iload_n 2, (0, 0, 0), 0)) (by decide +kernel)) g2_z hm_z
        replace hm_z := rn_iconst (w := 1) (am_cur_of (i := (76, 1, .iconst 1, (0, 0, 0), 0)) (by decide +kernel)) (by decide) hm_z
        replace hm_z := rn_cmpT (am_cur_of (i := (77, 3, .if_icmp .eq 8, (50, 0, 0), 0)) (by decide +kernel)) (by decide) hm_z
        replace hm_z := rn_bipush (w := 20) (am_cur_of (i := (85, 2, .bipush 20, (0, 0, 0), 0)) (by decide +kernel)) (by decide) hm_z
        replace hm_z := rn_goto (am_cur_of (i := (87, 3, .goto 20, (61, 0, 0), 0)) (by decide +kernel)) hm_z
        replace hm_z := rn_istore (am_cur_of (i := (107, 2, .istore 4, (0, 0, 0), 0)) (by decide +kernel)) hm_z
        obtain ⟨_, s470_z, s471_z, g4_z, hm_z⟩ := hm_z
        replace g0_z := s470_z 0 _ (by decide) rfl g0_z
        replace g1_z := s470_z 1 _ (by decide) rfl g1_z
        replace g2_z := s470_z 2 _ (by decide) rfl g2_z
        replace g3_z := s470_z 3 _ (by decide) rfl g3_z
        clear s470_z s471_z
        replace hm_z := rn_aload_n (am_cur_of (i := (109, 1, .aload_n 0, (0, 0, 0), 0)) (by decide +kernel)) g0_z hm_z
        replace hm_z := rn_iload_n (am_cur_of (i := (110, 1, .iload_n 3, (0, 0, 0), 0)) (by decide +kernel)) g3_z hm_z
        replace hm_z := rn_iload (am_cur_of (i := (111, 2, .iload 4, (0, 0, 0), 0)) (by decide +kernel)) g4_z hm_z
        replace hm_z := rn_callV (M' := am_m161) (o := 164) (ar := [.int 20, .int 0]) (rest := []) (L := lv_args 0 [.ref 164, .int 0, .int 20]) (am_cur_of (i := (113, 3, .invokevirtual 197, (161, 1677, 3), 0)) (by decide +kernel)) rfl rfl rfl rfl hm_z
        obtain ⟨r472_z, h473_z, q474_z, hm_z⟩ := hm_z
        obtain ⟨v475_z, rfl⟩ := rn_ret (M := am_m161) rfl (by decide) q474_z
        have K475 := kp_of (a := 161) (by decide) rfl (as := [.ref 164, .int 0, .int 20]) (ra_Sc (fun _ e => by cases e; rfl) (ra_Sc (ra_Vi) (ra_Sc (ra_Vi) ra_S0))) q474_z
        have z475_z := zM_t (zM_u (o := 170) (k := 42) (by decide) z463_z) K475.1
        have e17_475 : rg_v h473_z 164 17 = 2 := (K475.2 17 (by decide)).trans (show rg_v (am_up h461_z 170 42 (.int (rg_v h461_z 164 11))) 164 17 = 2 from e17_463)
        have e18_475 : rg_v h473_z 164 18 = ct := (K475.2 18 (by decide)).trans (show rg_v (am_up h461_z 170 42 (.int (rg_v h461_z 164 11))) 164 18 = ct from e18_463)
        have e19_475 : rg_v h473_z 164 19 = cl := (K475.2 19 (by decide)).trans (show rg_v (am_up h461_z 170 42 (.int (rg_v h461_z 164 11))) 164 19 = cl from e19_463)
        have e20_475 : rg_v h473_z 164 20 = cq := (K475.2 20 (by decide)).trans (show rg_v (am_up h461_z 170 42 (.int (rg_v h461_z 164 11))) 164 20 = cq from e20_463)
        replace hm_z : rn _ _ _ _ [.int v475_z] _ _ _ := hm_z
        replace hm_z := rn_if (am_cur_of (i := (116, 3, .ifCond .ne 5, (69, 0, 0), 0)) (by decide +kernel)) hm_z
        rcases hm_z with ⟨b476_z, hm_z⟩ | ⟨b476_z, hm_z⟩
        · replace b476_z : ¬ v475_z = (0 : Int32) ∧ ¬ v475_z.toInt = (0 : Int32).toInt := b476_z
          replace hm_z := rn_aload_n (am_cur_of (i := (121, 1, .aload_n 0, (0, 0, 0), 0)) (by decide +kernel)) g0_z hm_z
          replace hm_z := rn_getR (x := 170) (am_cur_of (i := (122, 3, .getfield 30, (12, 25, 1409), 0)) (by decide +kernel)) (by decide +kernel) hm_z
          replace hm_z := rn_iload_n (am_cur_of (i := (125, 1, .iload_n 1, (0, 0, 0), 0)) (by decide +kernel)) g1_z hm_z
          replace hm_z := rn_iload_n (am_cur_of (i := (126, 1, .iload_n 2, (0, 0, 0), 0)) (by decide +kernel)) g2_z hm_z
          replace hm_z := rn_iadd (w := 43) (am_cur_of (i := (127, 1, .iadd, (0, 0, 0), 0)) (by decide +kernel)) (by decide) hm_z
          replace hm_z := rn_aload_n (am_cur_of (i := (128, 1, .aload_n 0, (0, 0, 0), 0)) (by decide +kernel)) g0_z hm_z
          replace hm_z := rn_getI (v := rg_v h473_z 164 11) (am_cur_of (i := (129, 3, .getfield 188, (12, 11, 1395), 0)) (by decide +kernel)) (by decide +kernel) rfl hm_z
          replace hm_z := rn_iastore (N := 56) (q := 43) (am_cur_of (i := (132, 1, .iastore, (0, 0, 0), 0)) (by decide +kernel)) (by decide +kernel) rfl hm_z
          obtain ⟨p477_z, hm_z⟩ := hm_z
          replace hm_z := rn_iinc (w := 2) (am_cur_of (i := (133, 3, .iinc 2 1, (0, 0, 0), 0)) (by decide +kernel)) g2_z (by decide) hm_z
          obtain ⟨_, s478_z, s479_z, g2_z, hm_z⟩ := hm_z
          replace g0_z := s478_z 0 _ (by decide) rfl g0_z
          replace g1_z := s478_z 1 _ (by decide) rfl g1_z
          replace g3_z := s478_z 3 _ (by decide) rfl g3_z
          replace g4_z := s478_z 4 _ (by decide) rfl g4_z
          clear s478_z s479_z
          replace hm_z := rn_goto (am_cur_of (i := (136, 3, .goto (-87), (29, 0, 0), 0)) (by decide +kernel)) hm_z
          replace hm_z := rn_iload_n (am_cur_of (i := (49, 1, .iload_n 2, (0, 0, 0), 0)) (by decide +kernel)) g2_z hm_z
          replace hm_z := rn_bipush (w := 7) (am_cur_of (i := (50, 2, .bipush 7, (0, 0, 0), 0)) (by decide +kernel)) (by decide) hm_z
          replace hm_z := rn_cmpF (am_cur_of (i := (52, 3, .if_icmp .ge 87, (79, 0, 0), 0)) (by decide +kernel)) (by decide) hm_z
          replace hm_z := rn_iload_n (am_cur_of (i := (55, 1, .iload_n 2, (0, 0, 0), 0)) (by decide +kernel)) g2_z hm_z
          replace hm_z := rn_ifF (am_cur_of (i := (56, 3, .ifCond .eq 13, (40, 0, 0), 0)) (by decide +kernel)) (by decide) hm_z
          replace hm_z := rn_iload_n (am_cur_of (i := (59, 1, .iload_n 2, (0, 0, 0), 0)) (by decide +kernel)) g2_z hm_z
          replace hm_z := rn_iconst (w := 2) (am_cur_of (i := (60, 1, .iconst 2, (0, 0, 0), 0)) (by decide +kernel)) (by decide) hm_z
          replace hm_z := rn_cmpT (am_cur_of (i := (61, 3, .if_icmp .eq 8, (40, 0, 0), 0)) (by decide +kernel)) (by decide) hm_z
          replace hm_z := rn_iconst (w := 1) (am_cur_of (i := (69, 1, .iconst 1, (0, 0, 0), 0)) (by decide +kernel)) (by decide) hm_z
          replace hm_z := rn_goto (am_cur_of (i := (70, 3, .goto 4, (43, 0, 0), 0)) (by decide +kernel)) hm_z
          replace hm_z := rn_istore_n (am_cur_of (i := (74, 1, .istore_n 3, (0, 0, 0), 0)) (by decide +kernel)) hm_z
          obtain ⟨_, s480_z, s481_z, g3_z, hm_z⟩ := hm_z
          replace g0_z := s480_z 0 _ (by decide) rfl g0_z
          replace g1_z := s480_z 1 _ (by decide) rfl g1_z
          replace g2_z := s480_z 2 _ (by decide) rfl g2_z
          replace g4_z := s480_z 4 _ (by decide) rfl g4_z
          clear s480_z s481_z
          replace hm_z := rn_iload_n (am_cur_of (i := (75, 1, .iload_n 2, (0, 0, 0), 0)) (by decide +kernel)) g2_z hm_z
          replace hm_z := rn_iconst (w := 1) (am_cur_of (i := (76, 1, .iconst 1, (0, 0, 0), 0)) (by decide +kernel)) (by decide) hm_z
          replace hm_z := rn_cmpF (am_cur_of (i := (77, 3, .if_icmp .eq 8, (50, 0, 0), 0)) (by decide +kernel)) (by decide) hm_z
          replace hm_z := rn_iload_n (am_cur_of (i := (80, 1, .iload_n 2, (0, 0, 0), 0)) (by decide +kernel)) g2_z hm_z
          replace hm_z := rn_iconst (w := 2) (am_cur_of (i := (81, 1, .iconst 2, (0, 0, 0), 0)) (by decide +kernel)) (by decide) hm_z
          replace hm_z := rn_cmpF (am_cur_of (i := (82, 3, .if_icmp .ne 8, (52, 0, 0), 0)) (by decide +kernel)) (by decide) hm_z
          replace hm_z := rn_bipush (w := 20) (am_cur_of (i := (85, 2, .bipush 20, (0, 0, 0), 0)) (by decide +kernel)) (by decide) hm_z
          replace hm_z := rn_goto (am_cur_of (i := (87, 3, .goto 20, (61, 0, 0), 0)) (by decide +kernel)) hm_z
          replace hm_z := rn_istore (am_cur_of (i := (107, 2, .istore 4, (0, 0, 0), 0)) (by decide +kernel)) hm_z
          obtain ⟨_, s482_z, s483_z, g4_z, hm_z⟩ := hm_z
          replace g0_z := s482_z 0 _ (by decide) rfl g0_z
          replace g1_z := s482_z 1 _ (by decide) rfl g1_z
          replace g2_z := s482_z 2 _ (by decide) rfl g2_z
          replace g3_z := s482_z 3 _ (by decide) rfl g3_z
          clear s482_z s483_z
          replace hm_z := rn_aload_n (am_cur_of (i := (109, 1, .aload_n 0, (0, 0, 0), 0)) (by decide +kernel)) g0_z hm_z
          replace hm_z := rn_iload_n (am_cur_of (i := (110, 1, .iload_n 3, (0, 0, 0), 0)) (by decide +kernel)) g3_z hm_z
          replace hm_z := rn_iload (am_cur_of (i := (111, 2, .iload 4, (0, 0, 0), 0)) (by decide +kernel)) g4_z hm_z
          replace hm_z := rn_callV (M' := am_m161) (o := 164) (ar := [.int 20, .int 1]) (rest := []) (L := lv_args 0 [.ref 164, .int 1, .int 20]) (am_cur_of (i := (113, 3, .invokevirtual 197, (161, 1677, 3), 0)) (by decide +kernel)) rfl rfl rfl rfl hm_z
          obtain ⟨r484_z, h485_z, q486_z, hm_z⟩ := hm_z
          obtain ⟨v487_z, rfl⟩ := rn_ret (M := am_m161) rfl (by decide) q486_z
          have K487 := kp_of (a := 161) (by decide) rfl (as := [.ref 164, .int 1, .int 20]) (ra_Sc (fun _ e => by cases e; rfl) (ra_Sc (ra_Vi) (ra_Sc (ra_Vi) ra_S0))) q486_z
          have z487_z := zM_t (zM_u (o := 170) (k := 43) (by decide) z475_z) K487.1
          have e17_487 : rg_v h485_z 164 17 = 2 := (K487.2 17 (by decide)).trans (show rg_v (am_up h473_z 170 43 (.int (rg_v h473_z 164 11))) 164 17 = 2 from e17_475)
          have e18_487 : rg_v h485_z 164 18 = ct := (K487.2 18 (by decide)).trans (show rg_v (am_up h473_z 170 43 (.int (rg_v h473_z 164 11))) 164 18 = ct from e18_475)
          have e19_487 : rg_v h485_z 164 19 = cl := (K487.2 19 (by decide)).trans (show rg_v (am_up h473_z 170 43 (.int (rg_v h473_z 164 11))) 164 19 = cl from e19_475)
          have e20_487 : rg_v h485_z 164 20 = cq := (K487.2 20 (by decide)).trans (show rg_v (am_up h473_z 170 43 (.int (rg_v h473_z 164 11))) 164 20 = cq from e20_475)
          replace hm_z : rn _ _ _ _ [.int v487_z] _ _ _ := hm_z
          replace hm_z := rn_if (am_cur_of (i := (116, 3, .ifCond .ne 5, (69, 0, 0), 0)) (by decide +kernel)) hm_z
          rcases hm_z with ⟨b488_z, hm_z⟩ | ⟨b488_z, hm_z⟩
          · replace b488_z : ¬ v487_z = (0 : Int32) ∧ ¬ v487_z.toInt = (0 : Int32).toInt := b488_z
            replace hm_z := rn_aload_n (am_cur_of (i := (121, 1, .aload_n 0, (0, 0, 0), 0)) (by decide +kernel)) g0_z hm_z
            replace hm_z := rn_getR (x := 170) (am_cur_of (i := (122, 3, .getfield 30, (12, 25, 1409), 0)) (by decide +kernel)) (by decide +kernel) hm_z
            replace hm_z := rn_iload_n (am_cur_of (i := (125, 1, .iload_n 1, (0, 0, 0), 0)) (by decide +kernel)) g1_z hm_z
            replace hm_z := rn_iload_n (am_cur_of (i := (126, 1, .iload_n 2, (0, 0, 0), 0)) (by decide +kernel)) g2_z hm_z
            replace hm_z := rn_iadd (w := 44) (am_cur_of (i := (127, 1, .iadd, (0, 0, 0), 0)) (by decide +kernel)) (by decide) hm_z
            replace hm_z := rn_aload_n (am_cur_of (i := (128, 1, .aload_n 0, (0, 0, 0), 0)) (by decide +kernel)) g0_z hm_z
            replace hm_z := rn_getI (v := rg_v h485_z 164 11) (am_cur_of (i := (129, 3, .getfield 188, (12, 11, 1395), 0)) (by decide +kernel)) (by decide +kernel) rfl hm_z
            replace hm_z := rn_iastore (N := 56) (q := 44) (am_cur_of (i := (132, 1, .iastore, (0, 0, 0), 0)) (by decide +kernel)) (by decide +kernel) rfl hm_z
            obtain ⟨p489_z, hm_z⟩ := hm_z
            replace hm_z := rn_iinc (w := 3) (am_cur_of (i := (133, 3, .iinc 2 1, (0, 0, 0), 0)) (by decide +kernel)) g2_z (by decide) hm_z
            obtain ⟨_, s490_z, s491_z, g2_z, hm_z⟩ := hm_z
            replace g0_z := s490_z 0 _ (by decide) rfl g0_z
            replace g1_z := s490_z 1 _ (by decide) rfl g1_z
            replace g3_z := s490_z 3 _ (by decide) rfl g3_z
            replace g4_z := s490_z 4 _ (by decide) rfl g4_z
            clear s490_z s491_z
            replace hm_z := rn_goto (am_cur_of (i := (136, 3, .goto (-87), (29, 0, 0), 0)) (by decide +kernel)) hm_z
            replace hm_z := rn_iload_n (am_cur_of (i := (49, 1, .iload_n 2, (0, 0, 0), 0)) (by decide +kernel)) g2_z hm_z
            replace hm_z := rn_bipush (w := 7) (am_cur_of (i := (50, 2, .bipush 7, (0, 0, 0), 0)) (by decide +kernel)) (by decide) hm_z
            replace hm_z := rn_cmpF (am_cur_of (i := (52, 3, .if_icmp .ge 87, (79, 0, 0), 0)) (by decide +kernel)) (by decide) hm_z
            replace hm_z := rn_iload_n (am_cur_of (i := (55, 1, .iload_n 2, (0, 0, 0), 0)) (by decide +kernel)) g2_z hm_z
            replace hm_z := rn_ifF (am_cur_of (i := (56, 3, .ifCond .eq 13, (40, 0, 0), 0)) (by decide +kernel)) (by decide) hm_z
            replace hm_z := rn_iload_n (am_cur_of (i := (59, 1, .iload_n 2, (0, 0, 0), 0)) (by decide +kernel)) g2_z hm_z
            replace hm_z := rn_iconst (w := 2) (am_cur_of (i := (60, 1, .iconst 2, (0, 0, 0), 0)) (by decide +kernel)) (by decide) hm_z
            replace hm_z := rn_cmpF (am_cur_of (i := (61, 3, .if_icmp .eq 8, (40, 0, 0), 0)) (by decide +kernel)) (by decide) hm_z
            replace hm_z := rn_iload_n (am_cur_of (i := (64, 1, .iload_n 2, (0, 0, 0), 0)) (by decide +kernel)) g2_z hm_z
            replace hm_z := rn_iconst (w := 3) (am_cur_of (i := (65, 1, .iconst 3, (0, 0, 0), 0)) (by decide +kernel)) (by decide) hm_z
            replace hm_z := rn_cmpF (am_cur_of (i := (66, 3, .if_icmp .ne 7, (42, 0, 0), 0)) (by decide +kernel)) (by decide) hm_z
            replace hm_z := rn_iconst (w := 1) (am_cur_of (i := (69, 1, .iconst 1, (0, 0, 0), 0)) (by decide +kernel)) (by decide) hm_z
            replace hm_z := rn_goto (am_cur_of (i := (70, 3, .goto 4, (43, 0, 0), 0)) (by decide +kernel)) hm_z
            replace hm_z := rn_istore_n (am_cur_of (i := (74, 1, .istore_n 3, (0, 0, 0), 0)) (by decide +kernel)) hm_z
            obtain ⟨_, s492_z, s493_z, g3_z, hm_z⟩ := hm_z
            replace g0_z := s492_z 0 _ (by decide) rfl g0_z
            replace g1_z := s492_z 1 _ (by decide) rfl g1_z
            replace g2_z := s492_z 2 _ (by decide) rfl g2_z
            replace g4_z := s492_z 4 _ (by decide) rfl g4_z
            clear s492_z s493_z
            replace hm_z := rn_iload_n (am_cur_of (i := (75, 1, .iload_n 2, (0, 0, 0), 0)) (by decide +kernel)) g2_z hm_z
            replace hm_z := rn_iconst (w := 1) (am_cur_of (i := (76, 1, .iconst 1, (0, 0, 0), 0)) (by decide +kernel)) (by decide) hm_z
            replace hm_z := rn_cmpF (am_cur_of (i := (77, 3, .if_icmp .eq 8, (50, 0, 0), 0)) (by decide +kernel)) (by decide) hm_z
            replace hm_z := rn_iload_n (am_cur_of (i := (80, 1, .iload_n 2, (0, 0, 0), 0)) (by decide +kernel)) g2_z hm_z
            replace hm_z := rn_iconst (w := 2) (am_cur_of (i := (81, 1, .iconst 2, (0, 0, 0), 0)) (by decide +kernel)) (by decide) hm_z
            replace hm_z := rn_cmpT (am_cur_of (i := (82, 3, .if_icmp .ne 8, (52, 0, 0), 0)) (by decide +kernel)) (by decide) hm_z
            replace hm_z := rn_iload_n (am_cur_of (i := (90, 1, .iload_n 2, (0, 0, 0), 0)) (by decide +kernel)) g2_z hm_z
            replace hm_z := rn_iconst (w := 3) (am_cur_of (i := (91, 1, .iconst 3, (0, 0, 0), 0)) (by decide +kernel)) (by decide) hm_z
            replace hm_z := rn_cmpT (am_cur_of (i := (92, 3, .if_icmp .eq 8, (58, 0, 0), 0)) (by decide +kernel)) (by decide) hm_z
            replace hm_z := rn_bipush (w := 9) (am_cur_of (i := (100, 2, .bipush 9, (0, 0, 0), 0)) (by decide +kernel)) (by decide) hm_z
            replace hm_z := rn_goto (am_cur_of (i := (102, 3, .goto 5, (61, 0, 0), 0)) (by decide +kernel)) hm_z
            replace hm_z := rn_istore (am_cur_of (i := (107, 2, .istore 4, (0, 0, 0), 0)) (by decide +kernel)) hm_z
            obtain ⟨_, s494_z, s495_z, g4_z, hm_z⟩ := hm_z
            replace g0_z := s494_z 0 _ (by decide) rfl g0_z
            replace g1_z := s494_z 1 _ (by decide) rfl g1_z
            replace g2_z := s494_z 2 _ (by decide) rfl g2_z
            replace g3_z := s494_z 3 _ (by decide) rfl g3_z
            clear s494_z s495_z
            replace hm_z := rn_aload_n (am_cur_of (i := (109, 1, .aload_n 0, (0, 0, 0), 0)) (by decide +kernel)) g0_z hm_z
            replace hm_z := rn_iload_n (am_cur_of (i := (110, 1, .iload_n 3, (0, 0, 0), 0)) (by decide +kernel)) g3_z hm_z
            replace hm_z := rn_iload (am_cur_of (i := (111, 2, .iload 4, (0, 0, 0), 0)) (by decide +kernel)) g4_z hm_z
            replace hm_z := rn_callV (M' := am_m161) (o := 164) (ar := [.int 9, .int 1]) (rest := []) (L := lv_args 0 [.ref 164, .int 1, .int 9]) (am_cur_of (i := (113, 3, .invokevirtual 197, (161, 1677, 3), 0)) (by decide +kernel)) rfl rfl rfl rfl hm_z
            obtain ⟨r496_z, h497_z, q498_z, hm_z⟩ := hm_z
            obtain ⟨v499_z, rfl⟩ := rn_ret (M := am_m161) rfl (by decide) q498_z
            have K499 := kp_of (a := 161) (by decide) rfl (as := [.ref 164, .int 1, .int 9]) (ra_Sc (fun _ e => by cases e; rfl) (ra_Sc (ra_Vi) (ra_Sc (ra_Vi) ra_S0))) q498_z
            have z499_z := zM_t (zM_u (o := 170) (k := 44) (by decide) z487_z) K499.1
            have e17_499 : rg_v h497_z 164 17 = 2 := (K499.2 17 (by decide)).trans (show rg_v (am_up h485_z 170 44 (.int (rg_v h485_z 164 11))) 164 17 = 2 from e17_487)
            have e18_499 : rg_v h497_z 164 18 = ct := (K499.2 18 (by decide)).trans (show rg_v (am_up h485_z 170 44 (.int (rg_v h485_z 164 11))) 164 18 = ct from e18_487)
            have e19_499 : rg_v h497_z 164 19 = cl := (K499.2 19 (by decide)).trans (show rg_v (am_up h485_z 170 44 (.int (rg_v h485_z 164 11))) 164 19 = cl from e19_487)
            have e20_499 : rg_v h497_z 164 20 = cq := (K499.2 20 (by decide)).trans (show rg_v (am_up h485_z 170 44 (.int (rg_v h485_z 164 11))) 164 20 = cq from e20_487)
            replace hm_z : rn _ _ _ _ [.int v499_z] _ _ _ := hm_z
            replace hm_z := rn_if (am_cur_of (i := (116, 3, .ifCond .ne 5, (69, 0, 0), 0)) (by decide +kernel)) hm_z
            rcases hm_z with ⟨b500_z, hm_z⟩ | ⟨b500_z, hm_z⟩
            · replace b500_z : ¬ v499_z = (0 : Int32) ∧ ¬ v499_z.toInt = (0 : Int32).toInt := b500_z
              replace hm_z := rn_aload_n (am_cur_of (i := (121, 1, .aload_n 0, (0, 0, 0), 0)) (by decide +kernel)) g0_z hm_z
              replace hm_z := rn_getR (x := 170) (am_cur_of (i := (122, 3, .getfield 30, (12, 25, 1409), 0)) (by decide +kernel)) (by decide +kernel) hm_z
              replace hm_z := rn_iload_n (am_cur_of (i := (125, 1, .iload_n 1, (0, 0, 0), 0)) (by decide +kernel)) g1_z hm_z
              replace hm_z := rn_iload_n (am_cur_of (i := (126, 1, .iload_n 2, (0, 0, 0), 0)) (by decide +kernel)) g2_z hm_z
              replace hm_z := rn_iadd (w := 45) (am_cur_of (i := (127, 1, .iadd, (0, 0, 0), 0)) (by decide +kernel)) (by decide) hm_z
              replace hm_z := rn_aload_n (am_cur_of (i := (128, 1, .aload_n 0, (0, 0, 0), 0)) (by decide +kernel)) g0_z hm_z
              replace hm_z := rn_getI (v := rg_v h497_z 164 11) (am_cur_of (i := (129, 3, .getfield 188, (12, 11, 1395), 0)) (by decide +kernel)) (by decide +kernel) rfl hm_z
              replace hm_z := rn_iastore (N := 56) (q := 45) (am_cur_of (i := (132, 1, .iastore, (0, 0, 0), 0)) (by decide +kernel)) (by decide +kernel) rfl hm_z
              obtain ⟨p501_z, hm_z⟩ := hm_z
              replace hm_z := rn_iinc (w := 4) (am_cur_of (i := (133, 3, .iinc 2 1, (0, 0, 0), 0)) (by decide +kernel)) g2_z (by decide) hm_z
              obtain ⟨_, s502_z, s503_z, g2_z, hm_z⟩ := hm_z
              replace g0_z := s502_z 0 _ (by decide) rfl g0_z
              replace g1_z := s502_z 1 _ (by decide) rfl g1_z
              replace g3_z := s502_z 3 _ (by decide) rfl g3_z
              replace g4_z := s502_z 4 _ (by decide) rfl g4_z
              clear s502_z s503_z
              replace hm_z := rn_goto (am_cur_of (i := (136, 3, .goto (-87), (29, 0, 0), 0)) (by decide +kernel)) hm_z
              replace hm_z := rn_iload_n (am_cur_of (i := (49, 1, .iload_n 2, (0, 0, 0), 0)) (by decide +kernel)) g2_z hm_z
              replace hm_z := rn_bipush (w := 7) (am_cur_of (i := (50, 2, .bipush 7, (0, 0, 0), 0)) (by decide +kernel)) (by decide) hm_z
              replace hm_z := rn_cmpF (am_cur_of (i := (52, 3, .if_icmp .ge 87, (79, 0, 0), 0)) (by decide +kernel)) (by decide) hm_z
              replace hm_z := rn_iload_n (am_cur_of (i := (55, 1, .iload_n 2, (0, 0, 0), 0)) (by decide +kernel)) g2_z hm_z
              replace hm_z := rn_ifF (am_cur_of (i := (56, 3, .ifCond .eq 13, (40, 0, 0), 0)) (by decide +kernel)) (by decide) hm_z
              replace hm_z := rn_iload_n (am_cur_of (i := (59, 1, .iload_n 2, (0, 0, 0), 0)) (by decide +kernel)) g2_z hm_z
              replace hm_z := rn_iconst (w := 2) (am_cur_of (i := (60, 1, .iconst 2, (0, 0, 0), 0)) (by decide +kernel)) (by decide) hm_z
              replace hm_z := rn_cmpF (am_cur_of (i := (61, 3, .if_icmp .eq 8, (40, 0, 0), 0)) (by decide +kernel)) (by decide) hm_z
              replace hm_z := rn_iload_n (am_cur_of (i := (64, 1, .iload_n 2, (0, 0, 0), 0)) (by decide +kernel)) g2_z hm_z
              replace hm_z := rn_iconst (w := 3) (am_cur_of (i := (65, 1, .iconst 3, (0, 0, 0), 0)) (by decide +kernel)) (by decide) hm_z
              replace hm_z := rn_cmpT (am_cur_of (i := (66, 3, .if_icmp .ne 7, (42, 0, 0), 0)) (by decide +kernel)) (by decide) hm_z
              replace hm_z := rn_iconst (w := 0) (am_cur_of (i := (73, 1, .iconst 0, (0, 0, 0), 0)) (by decide +kernel)) (by decide) hm_z
              replace hm_z := rn_istore_n (am_cur_of (i := (74, 1, .istore_n 3, (0, 0, 0), 0)) (by decide +kernel)) hm_z
              obtain ⟨_, s504_z, s505_z, g3_z, hm_z⟩ := hm_z
              replace g0_z := s504_z 0 _ (by decide) rfl g0_z
              replace g1_z := s504_z 1 _ (by decide) rfl g1_z
              replace g2_z := s504_z 2 _ (by decide) rfl g2_z
              replace g4_z := s504_z 4 _ (by decide) rfl g4_z
              clear s504_z s505_z
              replace hm_z := rn_iload_n (am_cur_of (i := (75, 1, .iload_n 2, (0, 0, 0), 0)) (by decide +kernel)) g2_z hm_z
              replace hm_z := rn_iconst (w := 1) (am_cur_of (i := (76, 1, .iconst 1, (0, 0, 0), 0)) (by decide +kernel)) (by decide) hm_z
              replace hm_z := rn_cmpF (am_cur_of (i := (77, 3, .if_icmp .eq 8, (50, 0, 0), 0)) (by decide +kernel)) (by decide) hm_z
              replace hm_z := rn_iload_n (am_cur_of (i := (80, 1, .iload_n 2, (0, 0, 0), 0)) (by decide +kernel)) g2_z hm_z
              replace hm_z := rn_iconst (w := 2) (am_cur_of (i := (81, 1, .iconst 2, (0, 0, 0), 0)) (by decide +kernel)) (by decide) hm_z
              replace hm_z := rn_cmpT (am_cur_of (i := (82, 3, .if_icmp .ne 8, (52, 0, 0), 0)) (by decide +kernel)) (by decide) hm_z
              replace hm_z := rn_iload_n (am_cur_of (i := (90, 1, .iload_n 2, (0, 0, 0), 0)) (by decide +kernel)) g2_z hm_z
              replace hm_z := rn_iconst (w := 3) (am_cur_of (i := (91, 1, .iconst 3, (0, 0, 0), 0)) (by decide +kernel)) (by decide) hm_z
              replace hm_z := rn_cmpF (am_cur_of (i := (92, 3, .if_icmp .eq 8, (58, 0, 0), 0)) (by decide +kernel)) (by decide) hm_z
              replace hm_z := rn_iload_n (am_cur_of (i := (95, 1, .iload_n 2, (0, 0, 0), 0)) (by decide +kernel)) g2_z hm_z
              replace hm_z := rn_iconst (w := 5) (am_cur_of (i := (96, 1, .iconst 5, (0, 0, 0), 0)) (by decide +kernel)) (by decide) hm_z
              replace hm_z := rn_cmpT (am_cur_of (i := (97, 3, .if_icmp .ne 8, (60, 0, 0), 0)) (by decide +kernel)) (by decide) hm_z
              replace hm_z := rn_bipush (w := 99) (am_cur_of (i := (105, 2, .bipush 99, (0, 0, 0), 0)) (by decide +kernel)) (by decide) hm_z
              replace hm_z := rn_istore (am_cur_of (i := (107, 2, .istore 4, (0, 0, 0), 0)) (by decide +kernel)) hm_z
              obtain ⟨_, s506_z, s507_z, g4_z, hm_z⟩ := hm_z
              replace g0_z := s506_z 0 _ (by decide) rfl g0_z
              replace g1_z := s506_z 1 _ (by decide) rfl g1_z
              replace g2_z := s506_z 2 _ (by decide) rfl g2_z
              replace g3_z := s506_z 3 _ (by decide) rfl g3_z
              clear s506_z s507_z
              replace hm_z := rn_aload_n (am_cur_of (i := (109, 1, .aload_n 0, (0, 0, 0), 0)) (by decide +kernel)) g0_z hm_z
              replace hm_z := rn_iload_n (am_cur_of (i := (110, 1, .iload_n 3, (0, 0, 0), 0)) (by decide +kernel)) g3_z hm_z
              replace hm_z := rn_iload (am_cur_of (i := (111, 2, .iload 4, (0, 0, 0), 0)) (by decide +kernel)) g4_z hm_z
              replace hm_z := rn_callV (M' := am_m161) (o := 164) (ar := [.int 99, .int 0]) (rest := []) (L := lv_args 0 [.ref 164, .int 0, .int 99]) (am_cur_of (i := (113, 3, .invokevirtual 197, (161, 1677, 3), 0)) (by decide +kernel)) rfl rfl rfl rfl hm_z
              obtain ⟨r508_z, h509_z, q510_z, hm_z⟩ := hm_z
              obtain ⟨v511_z, rfl⟩ := rn_ret (M := am_m161) rfl (by decide) q510_z
              have K511 := kp_of (a := 161) (by decide) rfl (as := [.ref 164, .int 0, .int 99]) (ra_Sc (fun _ e => by cases e; rfl) (ra_Sc (ra_Vi) (ra_Sc (ra_Vi) ra_S0))) q510_z
              have z511_z := zM_t (zM_u (o := 170) (k := 45) (by decide) z499_z) K511.1
              have e17_511 : rg_v h509_z 164 17 = 2 := (K511.2 17 (by decide)).trans (show rg_v (am_up h497_z 170 45 (.int (rg_v h497_z 164 11))) 164 17 = 2 from e17_499)
              have e18_511 : rg_v h509_z 164 18 = ct := (K511.2 18 (by decide)).trans (show rg_v (am_up h497_z 170 45 (.int (rg_v h497_z 164 11))) 164 18 = ct from e18_499)
              have e19_511 : rg_v h509_z 164 19 = cl := (K511.2 19 (by decide)).trans (show rg_v (am_up h497_z 170 45 (.int (rg_v h497_z 164 11))) 164 19 = cl from e19_499)
              have e20_511 : rg_v h509_z 164 20 = cq := (K511.2 20 (by decide)).trans (show rg_v (am_up h497_z 170 45 (.int (rg_v h497_z 164 11))) 164 20 = cq from e20_499)
              replace hm_z : rn _ _ _ _ [.int v511_z] _ _ _ := hm_z
              replace hm_z := rn_if (am_cur_of (i := (116, 3, .ifCond .ne 5, (69, 0, 0), 0)) (by decide +kernel)) hm_z
              rcases hm_z with ⟨b512_z, hm_z⟩ | ⟨b512_z, hm_z⟩
              · replace b512_z : ¬ v511_z = (0 : Int32) ∧ ¬ v511_z.toInt = (0 : Int32).toInt := b512_z
                replace hm_z := rn_aload_n (am_cur_of (i := (121, 1, .aload_n 0, (0, 0, 0), 0)) (by decide +kernel)) g0_z hm_z
                replace hm_z := rn_getR (x := 170) (am_cur_of (i := (122, 3, .getfield 30, (12, 25, 1409), 0)) (by decide +kernel)) (by decide +kernel) hm_z
                replace hm_z := rn_iload_n (am_cur_of (i := (125, 1, .iload_n 1, (0, 0, 0), 0)) (by decide +kernel)) g1_z hm_z
                replace hm_z := rn_iload_n (am_cur_of (i := (126, 1, .iload_n 2, (0, 0, 0), 0)) (by decide +kernel)) g2_z hm_z
                replace hm_z := rn_iadd (w := 46) (am_cur_of (i := (127, 1, .iadd, (0, 0, 0), 0)) (by decide +kernel)) (by decide) hm_z
                replace hm_z := rn_aload_n (am_cur_of (i := (128, 1, .aload_n 0, (0, 0, 0), 0)) (by decide +kernel)) g0_z hm_z
                replace hm_z := rn_getI (v := rg_v h509_z 164 11) (am_cur_of (i := (129, 3, .getfield 188, (12, 11, 1395), 0)) (by decide +kernel)) (by decide +kernel) rfl hm_z
                replace hm_z := rn_iastore (N := 56) (q := 46) (am_cur_of (i := (132, 1, .iastore, (0, 0, 0), 0)) (by decide +kernel)) (by decide +kernel) rfl hm_z
                obtain ⟨p513_z, hm_z⟩ := hm_z
                replace hm_z := rn_iinc (w := 5) (am_cur_of (i := (133, 3, .iinc 2 1, (0, 0, 0), 0)) (by decide +kernel)) g2_z (by decide) hm_z
                obtain ⟨_, s514_z, s515_z, g2_z, hm_z⟩ := hm_z
                replace g0_z := s514_z 0 _ (by decide) rfl g0_z
                replace g1_z := s514_z 1 _ (by decide) rfl g1_z
                replace g3_z := s514_z 3 _ (by decide) rfl g3_z
                replace g4_z := s514_z 4 _ (by decide) rfl g4_z
                clear s514_z s515_z
                replace hm_z := rn_goto (am_cur_of (i := (136, 3, .goto (-87), (29, 0, 0), 0)) (by decide +kernel)) hm_z
                replace hm_z := rn_iload_n (am_cur_of (i := (49, 1, .iload_n 2, (0, 0, 0), 0)) (by decide +kernel)) g2_z hm_z
                replace hm_z := rn_bipush (w := 7) (am_cur_of (i := (50, 2, .bipush 7, (0, 0, 0), 0)) (by decide +kernel)) (by decide) hm_z
                replace hm_z := rn_cmpF (am_cur_of (i := (52, 3, .if_icmp .ge 87, (79, 0, 0), 0)) (by decide +kernel)) (by decide) hm_z
                replace hm_z := rn_iload_n (am_cur_of (i := (55, 1, .iload_n 2, (0, 0, 0), 0)) (by decide +kernel)) g2_z hm_z
                replace hm_z := rn_ifF (am_cur_of (i := (56, 3, .ifCond .eq 13, (40, 0, 0), 0)) (by decide +kernel)) (by decide) hm_z
                replace hm_z := rn_iload_n (am_cur_of (i := (59, 1, .iload_n 2, (0, 0, 0), 0)) (by decide +kernel)) g2_z hm_z
                replace hm_z := rn_iconst (w := 2) (am_cur_of (i := (60, 1, .iconst 2, (0, 0, 0), 0)) (by decide +kernel)) (by decide) hm_z
                replace hm_z := rn_cmpF (am_cur_of (i := (61, 3, .if_icmp .eq 8, (40, 0, 0), 0)) (by decide +kernel)) (by decide) hm_z
                replace hm_z := rn_iload_n (am_cur_of (i := (64, 1, .iload_n 2, (0, 0, 0), 0)) (by decide +kernel)) g2_z hm_z
                replace hm_z := rn_iconst (w := 3) (am_cur_of (i := (65, 1, .iconst 3, (0, 0, 0), 0)) (by decide +kernel)) (by decide) hm_z
                replace hm_z := rn_cmpT (am_cur_of (i := (66, 3, .if_icmp .ne 7, (42, 0, 0), 0)) (by decide +kernel)) (by decide) hm_z
                replace hm_z := rn_iconst (w := 0) (am_cur_of (i := (73, 1, .iconst 0, (0, 0, 0), 0)) (by decide +kernel)) (by decide) hm_z
                replace hm_z := rn_istore_n (am_cur_of (i := (74, 1, .istore_n 3, (0, 0, 0), 0)) (by decide +kernel)) hm_z
                obtain ⟨_, s516_z, s517_z, g3_z, hm_z⟩ := hm_z
                replace g0_z := s516_z 0 _ (by decide) rfl g0_z
                replace g1_z := s516_z 1 _ (by decide) rfl g1_z
                replace g2_z := s516_z 2 _ (by decide) rfl g2_z
                replace g4_z := s516_z 4 _ (by decide) rfl g4_z
                clear s516_z s517_z
                replace hm_z := rn_iload_n (am_cur_of (i := (75, 1, .iload_n 2, (0, 0, 0), 0)) (by decide +kernel)) g2_z hm_z
                replace hm_z := rn_iconst (w := 1) (am_cur_of (i := (76, 1, .iconst 1, (0, 0, 0), 0)) (by decide +kernel)) (by decide) hm_z
                replace hm_z := rn_cmpF (am_cur_of (i := (77, 3, .if_icmp .eq 8, (50, 0, 0), 0)) (by decide +kernel)) (by decide) hm_z
                replace hm_z := rn_iload_n (am_cur_of (i := (80, 1, .iload_n 2, (0, 0, 0), 0)) (by decide +kernel)) g2_z hm_z
                replace hm_z := rn_iconst (w := 2) (am_cur_of (i := (81, 1, .iconst 2, (0, 0, 0), 0)) (by decide +kernel)) (by decide) hm_z
                replace hm_z := rn_cmpT (am_cur_of (i := (82, 3, .if_icmp .ne 8, (52, 0, 0), 0)) (by decide +kernel)) (by decide) hm_z
                replace hm_z := rn_iload_n (am_cur_of (i := (90, 1, .iload_n 2, (0, 0, 0), 0)) (by decide +kernel)) g2_z hm_z
                replace hm_z := rn_iconst (w := 3) (am_cur_of (i := (91, 1, .iconst 3, (0, 0, 0), 0)) (by decide +kernel)) (by decide) hm_z
                replace hm_z := rn_cmpF (am_cur_of (i := (92, 3, .if_icmp .eq 8, (58, 0, 0), 0)) (by decide +kernel)) (by decide) hm_z
                replace hm_z := rn_iload_n (am_cur_of (i := (95, 1, .iload_n 2, (0, 0, 0), 0)) (by decide +kernel)) g2_z hm_z
                replace hm_z := rn_iconst (w := 5) (am_cur_of (i := (96, 1, .iconst 5, (0, 0, 0), 0)) (by decide +kernel)) (by decide) hm_z
                replace hm_z := rn_cmpF (am_cur_of (i := (97, 3, .if_icmp .ne 8, (60, 0, 0), 0)) (by decide +kernel)) (by decide) hm_z
                replace hm_z := rn_bipush (w := 9) (am_cur_of (i := (100, 2, .bipush 9, (0, 0, 0), 0)) (by decide +kernel)) (by decide) hm_z
                replace hm_z := rn_goto (am_cur_of (i := (102, 3, .goto 5, (61, 0, 0), 0)) (by decide +kernel)) hm_z
                replace hm_z := rn_istore (am_cur_of (i := (107, 2, .istore 4, (0, 0, 0), 0)) (by decide +kernel)) hm_z
                obtain ⟨_, s518_z, s519_z, g4_z, hm_z⟩ := hm_z
                replace g0_z := s518_z 0 _ (by decide) rfl g0_z
                replace g1_z := s518_z 1 _ (by decide) rfl g1_z
                replace g2_z := s518_z 2 _ (by decide) rfl g2_z
                replace g3_z := s518_z 3 _ (by decide) rfl g3_z
                clear s518_z s519_z
                replace hm_z := rn_aload_n (am_cur_of (i := (109, 1, .aload_n 0, (0, 0, 0), 0)) (by decide +kernel)) g0_z hm_z
                replace hm_z := rn_iload_n (am_cur_of (i := (110, 1, .iload_n 3, (0, 0, 0), 0)) (by decide +kernel)) g3_z hm_z
                replace hm_z := rn_iload (am_cur_of (i := (111, 2, .iload 4, (0, 0, 0), 0)) (by decide +kernel)) g4_z hm_z
                replace hm_z := rn_callV (M' := am_m161) (o := 164) (ar := [.int 9, .int 0]) (rest := []) (L := lv_args 0 [.ref 164, .int 0, .int 9]) (am_cur_of (i := (113, 3, .invokevirtual 197, (161, 1677, 3), 0)) (by decide +kernel)) rfl rfl rfl rfl hm_z
                obtain ⟨r520_z, h521_z, q522_z, hm_z⟩ := hm_z
                obtain ⟨v523_z, rfl⟩ := rn_ret (M := am_m161) rfl (by decide) q522_z
                have K523 := kp_of (a := 161) (by decide) rfl (as := [.ref 164, .int 0, .int 9]) (ra_Sc (fun _ e => by cases e; rfl) (ra_Sc (ra_Vi) (ra_Sc (ra_Vi) ra_S0))) q522_z
                have z523_z := zM_t (zM_u (o := 170) (k := 46) (by decide) z511_z) K523.1
                have e17_523 : rg_v h521_z 164 17 = 2 := (K523.2 17 (by decide)).trans (show rg_v (am_up h509_z 170 46 (.int (rg_v h509_z 164 11))) 164 17 = 2 from e17_511)
                have e18_523 : rg_v h521_z 164 18 = ct := (K523.2 18 (by decide)).trans (show rg_v (am_up h509_z 170 46 (.int (rg_v h509_z 164 11))) 164 18 = ct from e18_511)
                have e19_523 : rg_v h521_z 164 19 = cl := (K523.2 19 (by decide)).trans (show rg_v (am_up h509_z 170 46 (.int (rg_v h509_z 164 11))) 164 19 = cl from e19_511)
                have e20_523 : rg_v h521_z 164 20 = cq := (K523.2 20 (by decide)).trans (show rg_v (am_up h509_z 170 46 (.int (rg_v h509_z 164 11))) 164 20 = cq from e20_511)
                replace hm_z : rn _ _ _ _ [.int v523_z] _ _ _ := hm_z
                replace hm_z := rn_if (am_cur_of (i := (116, 3, .ifCond .ne 5, (69, 0, 0), 0)) (by decide +kernel)) hm_z
                rcases hm_z with ⟨b524_z, hm_z⟩ | ⟨b524_z, hm_z⟩
                · replace b524_z : ¬ v523_z = (0 : Int32) ∧ ¬ v523_z.toInt = (0 : Int32).toInt := b524_z
                  replace hm_z := rn_aload_n (am_cur_of (i := (121, 1, .aload_n 0, (0, 0, 0), 0)) (by decide +kernel)) g0_z hm_z
                  replace hm_z := rn_getR (x := 170) (am_cur_of (i := (122, 3, .getfield 30, (12, 25, 1409), 0)) (by decide +kernel)) (by decide +kernel) hm_z
                  replace hm_z := rn_iload_n (am_cur_of (i := (125, 1, .iload_n 1, (0, 0, 0), 0)) (by decide +kernel)) g1_z hm_z
                  replace hm_z := rn_iload_n (am_cur_of (i := (126, 1, .iload_n 2, (0, 0, 0), 0)) (by decide +kernel)) g2_z hm_z
                  replace hm_z := rn_iadd (w := 47) (am_cur_of (i := (127, 1, .iadd, (0, 0, 0), 0)) (by decide +kernel)) (by decide) hm_z
                  replace hm_z := rn_aload_n (am_cur_of (i := (128, 1, .aload_n 0, (0, 0, 0), 0)) (by decide +kernel)) g0_z hm_z
                  replace hm_z := rn_getI (v := rg_v h521_z 164 11) (am_cur_of (i := (129, 3, .getfield 188, (12, 11, 1395), 0)) (by decide +kernel)) (by decide +kernel) rfl hm_z
                  replace hm_z := rn_iastore (N := 56) (q := 47) (am_cur_of (i := (132, 1, .iastore, (0, 0, 0), 0)) (by decide +kernel)) (by decide +kernel) rfl hm_z
                  obtain ⟨p525_z, hm_z⟩ := hm_z
                  replace hm_z := rn_iinc (w := 6) (am_cur_of (i := (133, 3, .iinc 2 1, (0, 0, 0), 0)) (by decide +kernel)) g2_z (by decide) hm_z
                  obtain ⟨_, s526_z, s527_z, g2_z, hm_z⟩ := hm_z
                  replace g0_z := s526_z 0 _ (by decide) rfl g0_z
                  replace g1_z := s526_z 1 _ (by decide) rfl g1_z
                  replace g3_z := s526_z 3 _ (by decide) rfl g3_z
                  replace g4_z := s526_z 4 _ (by decide) rfl g4_z
                  clear s526_z s527_z
                  replace hm_z := rn_goto (am_cur_of (i := (136, 3, .goto (-87), (29, 0, 0), 0)) (by decide +kernel)) hm_z
                  replace hm_z := rn_iload_n (am_cur_of (i := (49, 1, .iload_n 2, (0, 0, 0), 0)) (by decide +kernel)) g2_z hm_z
                  replace hm_z := rn_bipush (w := 7) (am_cur_of (i := (50, 2, .bipush 7, (0, 0, 0), 0)) (by decide +kernel)) (by decide) hm_z
                  replace hm_z := rn_cmpF (am_cur_of (i := (52, 3, .if_icmp .ge 87, (79, 0, 0), 0)) (by decide +kernel)) (by decide) hm_z
                  replace hm_z := rn_iload_n (am_cur_of (i := (55, 1, .iload_n 2, (0, 0, 0), 0)) (by decide +kernel)) g2_z hm_z
                  replace hm_z := rn_ifF (am_cur_of (i := (56, 3, .ifCond .eq 13, (40, 0, 0), 0)) (by decide +kernel)) (by decide) hm_z
                  replace hm_z := rn_iload_n (am_cur_of (i := (59, 1, .iload_n 2, (0, 0, 0), 0)) (by decide +kernel)) g2_z hm_z
                  replace hm_z := rn_iconst (w := 2) (am_cur_of (i := (60, 1, .iconst 2, (0, 0, 0), 0)) (by decide +kernel)) (by decide) hm_z
                  replace hm_z := rn_cmpF (am_cur_of (i := (61, 3, .if_icmp .eq 8, (40, 0, 0), 0)) (by decide +kernel)) (by decide) hm_z
                  replace hm_z := rn_iload_n (am_cur_of (i := (64, 1, .iload_n 2, (0, 0, 0), 0)) (by decide +kernel)) g2_z hm_z
                  replace hm_z := rn_iconst (w := 3) (am_cur_of (i := (65, 1, .iconst 3, (0, 0, 0), 0)) (by decide +kernel)) (by decide) hm_z
                  replace hm_z := rn_cmpT (am_cur_of (i := (66, 3, .if_icmp .ne 7, (42, 0, 0), 0)) (by decide +kernel)) (by decide) hm_z
                  replace hm_z := rn_iconst (w := 0) (am_cur_of (i := (73, 1, .iconst 0, (0, 0, 0), 0)) (by decide +kernel)) (by decide) hm_z
                  replace hm_z := rn_istore_n (am_cur_of (i := (74, 1, .istore_n 3, (0, 0, 0), 0)) (by decide +kernel)) hm_z
                  obtain ⟨_, s528_z, s529_z, g3_z, hm_z⟩ := hm_z
                  replace g0_z := s528_z 0 _ (by decide) rfl g0_z
                  replace g1_z := s528_z 1 _ (by decide) rfl g1_z
                  replace g2_z := s528_z 2 _ (by decide) rfl g2_z
                  replace g4_z := s528_z 4 _ (by decide) rfl g4_z
                  clear s528_z s529_z
                  replace hm_z := rn_iload_n (am_cur_of (i := (75, 1, .iload_n 2, (0, 0, 0), 0)) (by decide +kernel)) g2_z hm_z
                  replace hm_z := rn_iconst (w := 1) (am_cur_of (i := (76, 1, .iconst 1, (0, 0, 0), 0)) (by decide +kernel)) (by decide) hm_z
                  replace hm_z := rn_cmpF (am_cur_of (i := (77, 3, .if_icmp .eq 8, (50, 0, 0), 0)) (by decide +kernel)) (by decide) hm_z
                  replace hm_z := rn_iload_n (am_cur_of (i := (80, 1, .iload_n 2, (0, 0, 0), 0)) (by decide +kernel)) g2_z hm_z
                  replace hm_z := rn_iconst (w := 2) (am_cur_of (i := (81, 1, .iconst 2, (0, 0, 0), 0)) (by decide +kernel)) (by decide) hm_z
                  replace hm_z := rn_cmpT (am_cur_of (i := (82, 3, .if_icmp .ne 8, (52, 0, 0), 0)) (by decide +kernel)) (by decide) hm_z
                  replace hm_z := rn_iload_n (am_cur_of (i := (90, 1, .iload_n 2, (0, 0, 0), 0)) (by decide +kernel)) g2_z hm_z
                  replace hm_z := rn_iconst (w := 3) (am_cur_of (i := (91, 1, .iconst 3, (0, 0, 0), 0)) (by decide +kernel)) (by decide) hm_z
                  replace hm_z := rn_cmpF (am_cur_of (i := (92, 3, .if_icmp .eq 8, (58, 0, 0), 0)) (by decide +kernel)) (by decide) hm_z
                  replace hm_z := rn_iload_n (am_cur_of (i := (95, 1, .iload_n 2, (0, 0, 0), 0)) (by decide +kernel)) g2_z hm_z
                  replace hm_z := rn_iconst (w := 5) (am_cur_of (i := (96, 1, .iconst 5, (0, 0, 0), 0)) (by decide +kernel)) (by decide) hm_z
                  replace hm_z := rn_cmpT (am_cur_of (i := (97, 3, .if_icmp .ne 8, (60, 0, 0), 0)) (by decide +kernel)) (by decide) hm_z
                  replace hm_z := rn_bipush (w := 99) (am_cur_of (i := (105, 2, .bipush 99, (0, 0, 0), 0)) (by decide +kernel)) (by decide) hm_z
                  replace hm_z := rn_istore (am_cur_of (i := (107, 2, .istore 4, (0, 0, 0), 0)) (by decide +kernel)) hm_z
                  obtain ⟨_, s530_z, s531_z, g4_z, hm_z⟩ := hm_z
                  replace g0_z := s530_z 0 _ (by decide) rfl g0_z
                  replace g1_z := s530_z 1 _ (by decide) rfl g1_z
                  replace g2_z := s530_z 2 _ (by decide) rfl g2_z
                  replace g3_z := s530_z 3 _ (by decide) rfl g3_z
                  clear s530_z s531_z
                  replace hm_z := rn_aload_n (am_cur_of (i := (109, 1, .aload_n 0, (0, 0, 0), 0)) (by decide +kernel)) g0_z hm_z
                  replace hm_z := rn_iload_n (am_cur_of (i := (110, 1, .iload_n 3, (0, 0, 0), 0)) (by decide +kernel)) g3_z hm_z
                  replace hm_z := rn_iload (am_cur_of (i := (111, 2, .iload 4, (0, 0, 0), 0)) (by decide +kernel)) g4_z hm_z
                  replace hm_z := rn_callV (M' := am_m161) (o := 164) (ar := [.int 99, .int 0]) (rest := []) (L := lv_args 0 [.ref 164, .int 0, .int 99]) (am_cur_of (i := (113, 3, .invokevirtual 197, (161, 1677, 3), 0)) (by decide +kernel)) rfl rfl rfl rfl hm_z
                  obtain ⟨r532_z, h533_z, q534_z, hm_z⟩ := hm_z
                  obtain ⟨v535_z, rfl⟩ := rn_ret (M := am_m161) rfl (by decide) q534_z
                  have K535 := kp_of (a := 161) (by decide) rfl (as := [.ref 164, .int 0, .int 99]) (ra_Sc (fun _ e => by cases e; rfl) (ra_Sc (ra_Vi) (ra_Sc (ra_Vi) ra_S0))) q534_z
                  have z535_z := zM_t (zM_u (o := 170) (k := 47) (by decide) z523_z) K535.1
                  have e17_535 : rg_v h533_z 164 17 = 2 := (K535.2 17 (by decide)).trans (show rg_v (am_up h521_z 170 47 (.int (rg_v h521_z 164 11))) 164 17 = 2 from e17_523)
                  have e18_535 : rg_v h533_z 164 18 = ct := (K535.2 18 (by decide)).trans (show rg_v (am_up h521_z 170 47 (.int (rg_v h521_z 164 11))) 164 18 = ct from e18_523)
                  have e19_535 : rg_v h533_z 164 19 = cl := (K535.2 19 (by decide)).trans (show rg_v (am_up h521_z 170 47 (.int (rg_v h521_z 164 11))) 164 19 = cl from e19_523)
                  have e20_535 : rg_v h533_z 164 20 = cq := (K535.2 20 (by decide)).trans (show rg_v (am_up h521_z 170 47 (.int (rg_v h521_z 164 11))) 164 20 = cq from e20_523)
                  replace hm_z : rn _ _ _ _ [.int v535_z] _ _ _ := hm_z
                  replace hm_z := rn_if (am_cur_of (i := (116, 3, .ifCond .ne 5, (69, 0, 0), 0)) (by decide +kernel)) hm_z
                  rcases hm_z with ⟨b536_z, hm_z⟩ | ⟨b536_z, hm_z⟩
                  · replace b536_z : ¬ v535_z = (0 : Int32) ∧ ¬ v535_z.toInt = (0 : Int32).toInt := b536_z
                    replace hm_z := rn_aload_n (am_cur_of (i := (121, 1, .aload_n 0, (0, 0, 0), 0)) (by decide +kernel)) g0_z hm_z
                    replace hm_z := rn_getR (x := 170) (am_cur_of (i := (122, 3, .getfield 30, (12, 25, 1409), 0)) (by decide +kernel)) (by decide +kernel) hm_z
                    replace hm_z := rn_iload_n (am_cur_of (i := (125, 1, .iload_n 1, (0, 0, 0), 0)) (by decide +kernel)) g1_z hm_z
                    replace hm_z := rn_iload_n (am_cur_of (i := (126, 1, .iload_n 2, (0, 0, 0), 0)) (by decide +kernel)) g2_z hm_z
                    replace hm_z := rn_iadd (w := 48) (am_cur_of (i := (127, 1, .iadd, (0, 0, 0), 0)) (by decide +kernel)) (by decide) hm_z
                    replace hm_z := rn_aload_n (am_cur_of (i := (128, 1, .aload_n 0, (0, 0, 0), 0)) (by decide +kernel)) g0_z hm_z
                    replace hm_z := rn_getI (v := rg_v h533_z 164 11) (am_cur_of (i := (129, 3, .getfield 188, (12, 11, 1395), 0)) (by decide +kernel)) (by decide +kernel) rfl hm_z
                    replace hm_z := rn_iastore (N := 56) (q := 48) (am_cur_of (i := (132, 1, .iastore, (0, 0, 0), 0)) (by decide +kernel)) (by decide +kernel) rfl hm_z
                    obtain ⟨p537_z, hm_z⟩ := hm_z
                    replace hm_z := rn_iinc (w := 7) (am_cur_of (i := (133, 3, .iinc 2 1, (0, 0, 0), 0)) (by decide +kernel)) g2_z (by decide) hm_z
                    obtain ⟨_, s538_z, s539_z, g2_z, hm_z⟩ := hm_z
                    replace g0_z := s538_z 0 _ (by decide) rfl g0_z
                    replace g1_z := s538_z 1 _ (by decide) rfl g1_z
                    replace g3_z := s538_z 3 _ (by decide) rfl g3_z
                    replace g4_z := s538_z 4 _ (by decide) rfl g4_z
                    clear s538_z s539_z
                    replace hm_z := rn_goto (am_cur_of (i := (136, 3, .goto (-87), (29, 0, 0), 0)) (by decide +kernel)) hm_z
                    replace hm_z := rn_iload_n (am_cur_of (i := (49, 1, .iload_n 2, (0, 0, 0), 0)) (by decide +kernel)) g2_z hm_z
                    replace hm_z := rn_bipush (w := 7) (am_cur_of (i := (50, 2, .bipush 7, (0, 0, 0), 0)) (by decide +kernel)) (by decide) hm_z
                    replace hm_z := rn_cmpT (am_cur_of (i := (52, 3, .if_icmp .ge 87, (79, 0, 0), 0)) (by decide +kernel)) (by decide) hm_z
                    replace hm_z := rn_aload_n (am_cur_of (i := (139, 1, .aload_n 0, (0, 0, 0), 0)) (by decide +kernel)) g0_z hm_z
                    replace hm_z := rn_dup (am_cur_of (i := (140, 1, .dup, (0, 0, 0), 0)) (by decide +kernel)) hm_z
                    replace hm_z := rn_getI (v := 2) (am_cur_of (i := (141, 3, .getfield 201, (12, 17, 1401), 0)) (by decide +kernel)) (by decide +kernel) (show rg_v (am_up h533_z 170 48 (.int (rg_v h533_z 164 11))) 164 17 = 2 from e17_535) hm_z
                    replace hm_z := rn_iconst (w := 1) (am_cur_of (i := (144, 1, .iconst 1, (0, 0, 0), 0)) (by decide +kernel)) (by decide) hm_z
                    replace hm_z := rn_iadd (w := 3) (am_cur_of (i := (145, 1, .iadd, (0, 0, 0), 0)) (by decide +kernel)) (by decide) hm_z
                    replace hm_z := rn_put (am_cur_of (i := (146, 3, .putfield 201, (12, 17, 1401), 0)) (by decide +kernel)) (by decide +kernel) hm_z
                    replace hm_z := rn_iconst (w := 1) (am_cur_of (i := (149, 1, .iconst 1, (0, 0, 0), 0)) (by decide +kernel)) (by decide) hm_z
                    replace hm_z := rn_iret (am_cur_of (i := (150, 1, .ireturn, (0, 0, 0), 0)) (by decide +kernel)) hm_z
                    obtain ⟨e540_z, e541_z⟩ := hm_z
                    rw [e541_z]
                    exact ⟨(zM_u (o := 164) (k := 17) (by decide) (zM_u (o := 170) (k := 48) (by decide) z535_z)), ⟨by rw [show rg_v (am_up (am_up h533_z 170 48 (.int (rg_v h533_z 164 11))) 164 17 (.int 3)) 164 17 = 3 from (show rg_v (am_up (am_up h533_z 170 48 (.int (rg_v h533_z 164 11))) 164 17 (.int 3)) 164 17 = 3 from rfl)]; omega, by rw [show rg_v (am_up (am_up h533_z 170 48 (.int (rg_v h533_z 164 11))) 164 17 (.int 3)) 164 17 = 3 from (show rg_v (am_up (am_up h533_z 170 48 (.int (rg_v h533_z 164 11))) 164 17 (.int 3)) 164 17 = 3 from rfl)]; omega⟩, ⟨by rw [show rg_v (am_up (am_up h533_z 170 48 (.int (rg_v h533_z 164 11))) 164 17 (.int 3)) 164 18 = ct from (show rg_v (am_up (am_up h533_z 170 48 (.int (rg_v h533_z 164 11))) 164 17 (.int 3)) 164 18 = ct from e18_535)]; omega, by rw [show rg_v (am_up (am_up h533_z 170 48 (.int (rg_v h533_z 164 11))) 164 17 (.int 3)) 164 18 = ct from (show rg_v (am_up (am_up h533_z 170 48 (.int (rg_v h533_z 164 11))) 164 17 (.int 3)) 164 18 = ct from e18_535)]; omega⟩, ⟨by rw [show rg_v (am_up (am_up h533_z 170 48 (.int (rg_v h533_z 164 11))) 164 17 (.int 3)) 164 19 = cl from (show rg_v (am_up (am_up h533_z 170 48 (.int (rg_v h533_z 164 11))) 164 17 (.int 3)) 164 19 = cl from e19_535)]; omega, by rw [show rg_v (am_up (am_up h533_z 170 48 (.int (rg_v h533_z 164 11))) 164 17 (.int 3)) 164 19 = cl from (show rg_v (am_up (am_up h533_z 170 48 (.int (rg_v h533_z 164 11))) 164 17 (.int 3)) 164 19 = cl from e19_535)]; omega⟩, ⟨by rw [show rg_v (am_up (am_up h533_z 170 48 (.int (rg_v h533_z 164 11))) 164 17 (.int 3)) 164 20 = cq from (show rg_v (am_up (am_up h533_z 170 48 (.int (rg_v h533_z 164 11))) 164 17 (.int 3)) 164 20 = cq from e20_535)]; omega, by rw [show rg_v (am_up (am_up h533_z 170 48 (.int (rg_v h533_z 164 11))) 164 17 (.int 3)) 164 20 = cq from (show rg_v (am_up (am_up h533_z 170 48 (.int (rg_v h533_z 164 11))) 164 17 (.int 3)) 164 20 = cq from e20_535)]; omega⟩⟩
                  · replace b536_z : v535_z = (0 : Int32) ∧ v535_z.toInt = (0 : Int32).toInt := b536_z
                    replace hm_z := rn_iconst (w := 0) (am_cur_of (i := (119, 1, .iconst 0, (0, 0, 0), 0)) (by decide +kernel)) (by decide) hm_z
                    replace hm_z := rn_iret (am_cur_of (i := (120, 1, .ireturn, (0, 0, 0), 0)) (by decide +kernel)) hm_z
                    obtain ⟨e542_z, e543_z⟩ := hm_z
                    rw [e543_z]
                    exact ⟨z535_z, ⟨by rw [show rg_v h533_z 164 17 = 2 from e17_535]; omega, by rw [show rg_v h533_z 164 17 = 2 from e17_535]; omega⟩, ⟨by rw [show rg_v h533_z 164 18 = ct from e18_535]; omega, by rw [show rg_v h533_z 164 18 = ct from e18_535]; omega⟩, ⟨by rw [show rg_v h533_z 164 19 = cl from e19_535]; omega, by rw [show rg_v h533_z 164 19 = cl from e19_535]; omega⟩, ⟨by rw [show rg_v h533_z 164 20 = cq from e20_535]; omega, by rw [show rg_v h533_z 164 20 = cq from e20_535]; omega⟩⟩
                · replace b524_z : v523_z = (0 : Int32) ∧ v523_z.toInt = (0 : Int32).toInt := b524_z
                  replace hm_z := rn_iconst (w := 0) (am_cur_of (i := (119, 1, .iconst 0, (0, 0, 0), 0)) (by decide +kernel)) (by decide) hm_z
                  replace hm_z := rn_iret (am_cur_of (i := (120, 1, .ireturn, (0, 0, 0), 0)) (by decide +kernel)) hm_z
                  obtain ⟨e544_z, e545_z⟩ := hm_z
                  rw [e545_z]
                  exact ⟨z523_z, ⟨by rw [show rg_v h521_z 164 17 = 2 from e17_523]; omega, by rw [show rg_v h521_z 164 17 = 2 from e17_523]; omega⟩, ⟨by rw [show rg_v h521_z 164 18 = ct from e18_523]; omega, by rw [show rg_v h521_z 164 18 = ct from e18_523]; omega⟩, ⟨by rw [show rg_v h521_z 164 19 = cl from e19_523]; omega, by rw [show rg_v h521_z 164 19 = cl from e19_523]; omega⟩, ⟨by rw [show rg_v h521_z 164 20 = cq from e20_523]; omega, by rw [show rg_v h521_z 164 20 = cq from e20_523]; omega⟩⟩
              · replace b512_z : v511_z = (0 : Int32) ∧ v511_z.toInt = (0 : Int32).toInt := b512_z
                replace hm_z := rn_iconst (w := 0) (am_cur_of (i := (119, 1, .iconst 0, (0, 0, 0), 0)) (by decide +kernel)) (by decide) hm_z
                replace hm_z := rn_iret (am_cur_of (i := (120, 1, .ireturn, (0, 0, 0), 0)) (by decide +kernel)) hm_z
                obtain ⟨e546_z, e547_z⟩ := hm_z
                rw [e547_z]
                exact ⟨z511_z, ⟨by rw [show rg_v h509_z 164 17 = 2 from e17_511]; omega, by rw [show rg_v h509_z 164 17 = 2 from e17_511]; omega⟩, ⟨by rw [show rg_v h509_z 164 18 = ct from e18_511]; omega, by rw [show rg_v h509_z 164 18 = ct from e18_511]; omega⟩, ⟨by rw [show rg_v h509_z 164 19 = cl from e19_511]; omega, by rw [show rg_v h509_z 164 19 = cl from e19_511]; omega⟩, ⟨by rw [show rg_v h509_z 164 20 = cq from e20_511]; omega, by rw [show rg_v h509_z 164 20 = cq from e20_511]; omega⟩⟩
            · replace b500_z : v499_z = (0 : Int32) ∧ v499_z.toInt = (0 : Int32).toInt := b500_z
              replace hm_z := rn_iconst (w := 0) (am_cur_of (i := (119, 1, .iconst 0, (0, 0, 0), 0)) (by decide +kernel)) (by decide) hm_z
              replace hm_z := rn_iret (am_cur_of (i := (120, 1, .ireturn, (0, 0, 0), 0)) (by decide +kernel)) hm_z
              obtain ⟨e548_z, e549_z⟩ := hm_z
              rw [e549_z]
              exact ⟨z499_z, ⟨by rw [show rg_v h497_z 164 17 = 2 from e17_499]; omega, by rw [show rg_v h497_z 164 17 = 2 from e17_499]; omega⟩, ⟨by rw [show rg_v h497_z 164 18 = ct from e18_499]; omega, by rw [show rg_v h497_z 164 18 = ct from e18_499]; omega⟩, ⟨by rw [show rg_v h497_z 164 19 = cl from e19_499]; omega, by rw [show rg_v h497_z 164 19 = cl from e19_499]; omega⟩, ⟨by rw [show rg_v h497_z 164 20 = cq from e20_499]; omega, by rw [show rg_v h497_z 164 20 = cq from e20_499]; omega⟩⟩
          · replace b488_z : v487_z = (0 : Int32) ∧ v487_z.toInt = (0 : Int32).toInt := b488_z
            replace hm_z := rn_iconst (w := 0) (am_cur_of (i := (119, 1, .iconst 0, (0, 0, 0), 0)) (by decide +kernel)) (by decide) hm_z
            replace hm_z := rn_iret (am_cur_of (i := (120, 1, .ireturn, (0, 0, 0), 0)) (by decide +kernel)) hm_z
            obtain ⟨e550_z, e551_z⟩ := hm_z
            rw [e551_z]
            exact ⟨z487_z, ⟨by rw [show rg_v h485_z 164 17 = 2 from e17_487]; omega, by rw [show rg_v h485_z 164 17 = 2 from e17_487]; omega⟩, ⟨by rw [show rg_v h485_z 164 18 = ct from e18_487]; omega, by rw [show rg_v h485_z 164 18 = ct from e18_487]; omega⟩, ⟨by rw [show rg_v h485_z 164 19 = cl from e19_487]; omega, by rw [show rg_v h485_z 164 19 = cl from e19_487]; omega⟩, ⟨by rw [show rg_v h485_z 164 20 = cq from e20_487]; omega, by rw [show rg_v h485_z 164 20 = cq from e20_487]; omega⟩⟩
        · replace b476_z : v475_z = (0 : Int32) ∧ v475_z.toInt = (0 : Int32).toInt := b476_z
          replace hm_z := rn_iconst (w := 0) (am_cur_of (i := (119, 1, .iconst 0, (0, 0, 0), 0)) (by decide +kernel)) (by decide) hm_z
          replace hm_z := rn_iret (am_cur_of (i := (120, 1, .ireturn, (0, 0, 0), 0)) (by decide +kernel)) hm_z
          obtain ⟨e552_z, e553_z⟩ := hm_z
          rw [e553_z]
          exact ⟨z475_z, ⟨by rw [show rg_v h473_z 164 17 = 2 from e17_475]; omega, by rw [show rg_v h473_z 164 17 = 2 from e17_475]; omega⟩, ⟨by rw [show rg_v h473_z 164 18 = ct from e18_475]; omega, by rw [show rg_v h473_z 164 18 = ct from e18_475]; omega⟩, ⟨by rw [show rg_v h473_z 164 19 = cl from e19_475]; omega, by rw [show rg_v h473_z 164 19 = cl from e19_475]; omega⟩, ⟨by rw [show rg_v h473_z 164 20 = cq from e20_475]; omega, by rw [show rg_v h473_z 164 20 = cq from e20_475]; omega⟩⟩
      · replace b464_z : v463_z = (0 : Int32) ∧ v463_z.toInt = (0 : Int32).toInt := b464_z
        replace hm_z := rn_iconst (w := 0) (am_cur_of (i := (119, 1, .iconst 0, (0, 0, 0), 0)) (by decide +kernel)) (by decide) hm_z
        replace hm_z := rn_iret (am_cur_of (i := (120, 1, .ireturn, (0, 0, 0), 0)) (by decide +kernel)) hm_z
        obtain ⟨e554_z, e555_z⟩ := hm_z
        rw [e555_z]
        exact ⟨z463_z, ⟨by rw [show rg_v h461_z 164 17 = 2 from e17_463]; omega, by rw [show rg_v h461_z 164 17 = 2 from e17_463]; omega⟩, ⟨by rw [show rg_v h461_z 164 18 = ct from e18_463]; omega, by rw [show rg_v h461_z 164 18 = ct from e18_463]; omega⟩, ⟨by rw [show rg_v h461_z 164 19 = cl from e19_463]; omega, by rw [show rg_v h461_z 164 19 = cl from e19_463]; omega⟩, ⟨by rw [show rg_v h461_z 164 20 = cq from e20_463]; omega, by rw [show rg_v h461_z 164 20 = cq from e20_463]; omega⟩⟩
    · replace b451_z : v450_z = (0 : Int32) ∧ v450_z.toInt = (0 : Int32).toInt := b451_z
      replace hm_z := rn_iconst (w := 0) (am_cur_of (i := (34, 1, .iconst 0, (0, 0, 0), 0)) (by decide +kernel)) (by decide) hm_z
      replace hm_z := rn_iret (am_cur_of (i := (35, 1, .ireturn, (0, 0, 0), 0)) (by decide +kernel)) hm_z
      obtain ⟨e556_z, e557_z⟩ := hm_z
      rw [e557_z]
      exact ⟨z450_z, ⟨by rw [show rg_v h448_z 164 17 = 2 from e17_450]; omega, by rw [show rg_v h448_z 164 17 = 2 from e17_450]; omega⟩, ⟨by rw [show rg_v h448_z 164 18 = ct from e18_450]; omega, by rw [show rg_v h448_z 164 18 = ct from e18_450]; omega⟩, ⟨by rw [show rg_v h448_z 164 19 = cl from e19_450]; omega, by rw [show rg_v h448_z 164 19 = cl from e19_450]; omega⟩, ⟨by rw [show rg_v h448_z 164 20 = cq from e20_450]; omega, by rw [show rg_v h448_z 164 20 = cq from e20_450]; omega⟩⟩
  · replace hm_z := rn_aload_n (am_cur_of (i := (0, 1, .aload_n 0, (0, 0, 0), 0)) (by decide +kernel)) g0_z hm_z
    replace hm_z := rn_getI (v := 3) (am_cur_of (i := (1, 3, .getfield 201, (12, 17, 1401), 0)) (by decide +kernel)) (by decide +kernel) ecb hm_z
    replace hm_z := rn_iconst (w := 4) (am_cur_of (i := (4, 1, .iconst 4, (0, 0, 0), 0)) (by decide +kernel)) (by decide) hm_z
    replace hm_z := rn_cmpT (am_cur_of (i := (5, 3, .if_icmp .ne 9, (8, 0, 0), 0)) (by decide +kernel)) (by decide) hm_z
    replace hm_z := rn_aload_n (am_cur_of (i := (14, 1, .aload_n 0, (0, 0, 0), 0)) (by decide +kernel)) g0_z hm_z
    replace hm_z := rn_callV (M' := am_m151) (o := 164) (ar := []) (rest := []) (L := lv_args 0 [.ref 164]) (am_cur_of (i := (15, 3, .invokevirtual 191, (151, 1636, 3), 0)) (by decide +kernel)) rfl rfl rfl rfl hm_z
    obtain ⟨r558_z, h559_z, q560_z, hm_z⟩ := hm_z
    have vo := rn_void rfl q560_z
    subst vo
    have K561 := kp_of (a := 151) (by decide) rfl (as := [.ref 164]) (ra_Sc (fun _ e => by cases e; rfl) ra_S0) q560_z
    have z561_z := zM_t zM_r K561.1
    have e17_561 : rg_v h559_z 164 17 = 3 := (K561.2 17 (by decide)).trans ecb
    have e18_561 : rg_v h559_z 164 18 = ct := (K561.2 18 (by decide)).trans ect
    have e19_561 : rg_v h559_z 164 19 = cl := (K561.2 19 (by decide)).trans ecl
    have e20_561 : rg_v h559_z 164 20 = cq := (K561.2 20 (by decide)).trans ecq
    replace hm_z : rn _ _ _ _ [] _ _ _ := hm_z
    replace hm_z := rn_aload_n (am_cur_of (i := (18, 1, .aload_n 0, (0, 0, 0), 0)) (by decide +kernel)) g0_z hm_z
    replace hm_z := rn_aload_n (am_cur_of (i := (19, 1, .aload_n 0, (0, 0, 0), 0)) (by decide +kernel)) g0_z hm_z
    replace hm_z := rn_getR (x := 169) (am_cur_of (i := (20, 3, .getfield 27, (12, 24, 1408), 0)) (by decide +kernel)) (by decide +kernel) hm_z
    replace hm_z := rn_iconst (w := 4) (am_cur_of (i := (23, 1, .iconst 4, (0, 0, 0), 0)) (by decide +kernel)) (by decide) hm_z
    replace hm_z := rn_aload_n (am_cur_of (i := (24, 1, .aload_n 0, (0, 0, 0), 0)) (by decide +kernel)) g0_z hm_z
    replace hm_z := rn_getI (v := 3) (am_cur_of (i := (25, 3, .getfield 201, (12, 17, 1401), 0)) (by decide +kernel)) (by decide +kernel) e17_561 hm_z
    replace hm_z := rn_callV (M' := am_m164) (o := 164) (ar := [.int 3, .int 4, .ref 169]) (rest := []) (L := lv_args 0 [.ref 164, .ref 169, .int 4, .int 3]) (am_cur_of (i := (28, 3, .invokevirtual 248, (164, 1688, 3), 0)) (by decide +kernel)) rfl rfl rfl rfl hm_z
    obtain ⟨r562_z, h563_z, q564_z, hm_z⟩ := hm_z
    obtain ⟨v565_z, rfl⟩ := rn_ret (M := am_m164) rfl (by decide) q564_z
    obtain ⟨aK565, bK565, cK565, dK565, fK565⟩ := mz_newB (by omega) (by omega) q564_z
    have K565 : zM _ _ ∧ ∀ k, (k = 17 ∨ k = 18 ∨ k = 19 ∨ k = 20) → rg_v _ 164 k = rg_v _ 164 k := ⟨aK565, fun k hk_z => by rcases hk_z with rfl | rfl | rfl | rfl <;> assumption⟩
    have z565_z := zM_t z561_z K565.1
    have e17_565 : rg_v h563_z 164 17 = 3 := (K565.2 17 (by decide)).trans e17_561
    have e18_565 : rg_v h563_z 164 18 = ct := (K565.2 18 (by decide)).trans e18_561
    have e19_565 : rg_v h563_z 164 19 = cl := (K565.2 19 (by decide)).trans e19_561
    have e20_565 : rg_v h563_z 164 20 = cq := (K565.2 20 (by decide)).trans e20_561
    replace hm_z : rn _ _ _ _ [.int v565_z] _ _ _ := hm_z
    replace hm_z := rn_if (am_cur_of (i := (31, 3, .ifCond .ne 5, (20, 0, 0), 0)) (by decide +kernel)) hm_z
    rcases hm_z with ⟨b566_z, hm_z⟩ | ⟨b566_z, hm_z⟩
    · replace b566_z : ¬ v565_z = (0 : Int32) ∧ ¬ v565_z.toInt = (0 : Int32).toInt := b566_z
      replace hm_z := rn_bipush (w := 28) (am_cur_of (i := (36, 2, .bipush 28, (0, 0, 0), 0)) (by decide +kernel)) (by decide) hm_z
      replace hm_z := rn_bipush (w := 7) (am_cur_of (i := (38, 2, .bipush 7, (0, 0, 0), 0)) (by decide +kernel)) (by decide) hm_z
      replace hm_z := rn_aload_n (am_cur_of (i := (40, 1, .aload_n 0, (0, 0, 0), 0)) (by decide +kernel)) g0_z hm_z
      replace hm_z := rn_getI (v := 3) (am_cur_of (i := (41, 3, .getfield 201, (12, 17, 1401), 0)) (by decide +kernel)) (by decide +kernel) e17_565 hm_z
      replace hm_z := rn_imul (w := 21) (am_cur_of (i := (44, 1, .imul, (0, 0, 0), 0)) (by decide +kernel)) (by decide) hm_z
      replace hm_z := rn_iadd (w := 49) (am_cur_of (i := (45, 1, .iadd, (0, 0, 0), 0)) (by decide +kernel)) (by decide) hm_z
      replace hm_z := rn_istore_n (am_cur_of (i := (46, 1, .istore_n 1, (0, 0, 0), 0)) (by decide +kernel)) hm_z
      obtain ⟨_, s567_z, s568_z, g1_z, hm_z⟩ := hm_z
      replace g0_z := s567_z 0 _ (by decide) rfl g0_z
      clear s567_z s568_z
      replace hm_z := rn_iconst (w := 0) (am_cur_of (i := (47, 1, .iconst 0, (0, 0, 0), 0)) (by decide +kernel)) (by decide) hm_z
      replace hm_z := rn_istore_n (am_cur_of (i := (48, 1, .istore_n 2, (0, 0, 0), 0)) (by decide +kernel)) hm_z
      obtain ⟨_, s569_z, s570_z, g2_z, hm_z⟩ := hm_z
      replace g0_z := s569_z 0 _ (by decide) rfl g0_z
      replace g1_z := s569_z 1 _ (by decide) rfl g1_z
      clear s569_z s570_z
      replace hm_z := rn_iload_n (am_cur_of (i := (49, 1, .iload_n 2, (0, 0, 0), 0)) (by decide +kernel)) g2_z hm_z
      replace hm_z := rn_bipush (w := 7) (am_cur_of (i := (50, 2, .bipush 7, (0, 0, 0), 0)) (by decide +kernel)) (by decide) hm_z
      replace hm_z := rn_cmpF (am_cur_of (i := (52, 3, .if_icmp .ge 87, (79, 0, 0), 0)) (by decide +kernel)) (by decide) hm_z
      replace hm_z := rn_iload_n (am_cur_of (i := (55, 1, .iload_n 2, (0, 0, 0), 0)) (by decide +kernel)) g2_z hm_z
      replace hm_z := rn_ifT (am_cur_of (i := (56, 3, .ifCond .eq 13, (40, 0, 0), 0)) (by decide +kernel)) (by decide) hm_z
      replace hm_z := rn_iconst (w := 1) (am_cur_of (i := (69, 1, .iconst 1, (0, 0, 0), 0)) (by decide +kernel)) (by decide) hm_z
      replace hm_z := rn_goto (am_cur_of (i := (70, 3, .goto 4, (43, 0, 0), 0)) (by decide +kernel)) hm_z
      replace hm_z := rn_istore_n (am_cur_of (i := (74, 1, .istore_n 3, (0, 0, 0), 0)) (by decide +kernel)) hm_z
      obtain ⟨_, s571_z, s572_z, g3_z, hm_z⟩ := hm_z
      replace g0_z := s571_z 0 _ (by decide) rfl g0_z
      replace g1_z := s571_z 1 _ (by decide) rfl g1_z
      replace g2_z := s571_z 2 _ (by decide) rfl g2_z
      clear s571_z s572_z
      replace hm_z := rn_iload_n (am_cur_of (i := (75, 1, .iload_n 2, (0, 0, 0), 0)) (by decide +kernel)) g2_z hm_z
      replace hm_z := rn_iconst (w := 1) (am_cur_of (i := (76, 1, .iconst 1, (0, 0, 0), 0)) (by decide +kernel)) (by decide) hm_z
      replace hm_z := rn_cmpF (am_cur_of (i := (77, 3, .if_icmp .eq 8, (50, 0, 0), 0)) (by decide +kernel)) (by decide) hm_z
      replace hm_z := rn_iload_n (am_cur_of (i := (80, 1, .iload_n 2, (0, 0, 0), 0)) (by decide +kernel)) g2_z hm_z
      replace hm_z := rn_iconst (w := 2) (am_cur_of (i := (81, 1, .iconst 2, (0, 0, 0), 0)) (by decide +kernel)) (by decide) hm_z
      replace hm_z := rn_cmpT (am_cur_of (i := (82, 3, .if_icmp .ne 8, (52, 0, 0), 0)) (by decide +kernel)) (by decide) hm_z
      replace hm_z := rn_iload_n (am_cur_of (i := (90, 1, .iload_n 2, (0, 0, 0), 0)) (by decide +kernel)) g2_z hm_z
      replace hm_z := rn_iconst (w := 3) (am_cur_of (i := (91, 1, .iconst 3, (0, 0, 0), 0)) (by decide +kernel)) (by decide) hm_z
      replace hm_z := rn_cmpF (am_cur_of (i := (92, 3, .if_icmp .eq 8, (58, 0, 0), 0)) (by decide +kernel)) (by decide) hm_z
      replace hm_z := rn_iload_n (am_cur_of (i := (95, 1, .iload_n 2, (0, 0, 0), 0)) (by decide +kernel)) g2_z hm_z
      replace hm_z := rn_iconst (w := 5) (am_cur_of (i := (96, 1, .iconst 5, (0, 0, 0), 0)) (by decide +kernel)) (by decide) hm_z
      replace hm_z := rn_cmpT (am_cur_of (i := (97, 3, .if_icmp .ne 8, (60, 0, 0), 0)) (by decide +kernel)) (by decide) hm_z
      replace hm_z := rn_bipush (w := 99) (am_cur_of (i := (105, 2, .bipush 99, (0, 0, 0), 0)) (by decide +kernel)) (by decide) hm_z
      replace hm_z := rn_istore (am_cur_of (i := (107, 2, .istore 4, (0, 0, 0), 0)) (by decide +kernel)) hm_z
      obtain ⟨_, s573_z, s574_z, g4_z, hm_z⟩ := hm_z
      replace g0_z := s573_z 0 _ (by decide) rfl g0_z
      replace g1_z := s573_z 1 _ (by decide) rfl g1_z
      replace g2_z := s573_z 2 _ (by decide) rfl g2_z
      replace g3_z := s573_z 3 _ (by decide) rfl g3_z
      clear s573_z s574_z
      replace hm_z := rn_aload_n (am_cur_of (i := (109, 1, .aload_n 0, (0, 0, 0), 0)) (by decide +kernel)) g0_z hm_z
      replace hm_z := rn_iload_n (am_cur_of (i := (110, 1, .iload_n 3, (0, 0, 0), 0)) (by decide +kernel)) g3_z hm_z
      replace hm_z := rn_iload (am_cur_of (i := (111, 2, .iload 4, (0, 0, 0), 0)) (by decide +kernel)) g4_z hm_z
      replace hm_z := rn_callV (M' := am_m161) (o := 164) (ar := [.int 99, .int 1]) (rest := []) (L := lv_args 0 [.ref 164, .int 1, .int 99]) (am_cur_of (i := (113, 3, .invokevirtual 197, (161, 1677, 3), 0)) (by decide +kernel)) rfl rfl rfl rfl hm_z
      obtain ⟨r575_z, h576_z, q577_z, hm_z⟩ := hm_z
      obtain ⟨v578_z, rfl⟩ := rn_ret (M := am_m161) rfl (by decide) q577_z
      have K578 := kp_of (a := 161) (by decide) rfl (as := [.ref 164, .int 1, .int 99]) (ra_Sc (fun _ e => by cases e; rfl) (ra_Sc (ra_Vi) (ra_Sc (ra_Vi) ra_S0))) q577_z
      have z578_z := zM_t z565_z K578.1
      have e17_578 : rg_v h576_z 164 17 = 3 := (K578.2 17 (by decide)).trans e17_565
      have e18_578 : rg_v h576_z 164 18 = ct := (K578.2 18 (by decide)).trans e18_565
      have e19_578 : rg_v h576_z 164 19 = cl := (K578.2 19 (by decide)).trans e19_565
      have e20_578 : rg_v h576_z 164 20 = cq := (K578.2 20 (by decide)).trans e20_565
      replace hm_z : rn _ _ _ _ [.int v578_z] _ _ _ := hm_z
      replace hm_z := rn_if (am_cur_of (i := (116, 3, .ifCond .ne 5, (69, 0, 0), 0)) (by decide +kernel)) hm_z
      rcases hm_z with ⟨b579_z, hm_z⟩ | ⟨b579_z, hm_z⟩
      · replace b579_z : ¬ v578_z = (0 : Int32) ∧ ¬ v578_z.toInt = (0 : Int32).toInt := b579_z
        replace hm_z := rn_aload_n (am_cur_of (i := (121, 1, .aload_n 0, (0, 0, 0), 0)) (by decide +kernel)) g0_z hm_z
        replace hm_z := rn_getR (x := 170) (am_cur_of (i := (122, 3, .getfield 30, (12, 25, 1409), 0)) (by decide +kernel)) (by decide +kernel) hm_z
        replace hm_z := rn_iload_n (am_cur_of (i := (125, 1, .iload_n 1, (0, 0, 0), 0)) (by decide +kernel)) g1_z hm_z
        replace hm_z := rn_iload_n (am_cur_of (i := (126, 1, .iload_n 2, (0, 0, 0), 0)) (by decide +kernel)) g2_z hm_z
        replace hm_z := rn_iadd (w := 49) (am_cur_of (i := (127, 1, .iadd, (0, 0, 0), 0)) (by decide +kernel)) (by decide) hm_z
        replace hm_z := rn_aload_n (am_cur_of (i := (128, 1, .aload_n 0, (0, 0, 0), 0)) (by decide +kernel)) g0_z hm_z
        replace hm_z := rn_getI (v := rg_v h576_z 164 11) (am_cur_of (i := (129, 3, .getfield 188, (12, 11, 1395), 0)) (by decide +kernel)) (by decide +kernel) rfl hm_z
        replace hm_z := rn_iastore (N := 56) (q := 49) (am_cur_of (i := (132, 1, .iastore, (0, 0, 0), 0)) (by decide +kernel)) (by decide +kernel) rfl hm_z
        obtain ⟨p580_z, hm_z⟩ := hm_z
        replace hm_z := rn_iinc (w := 1) (am_cur_of (i := (133, 3, .iinc 2 1, (0, 0, 0), 0)) (by decide +kernel)) g2_z (by decide) hm_z
        obtain ⟨_, s581_z, s582_z, g2_z, hm_z⟩ := hm_z
        replace g0_z := s581_z 0 _ (by decide) rfl g0_z
        replace g1_z := s581_z 1 _ (by decide) rfl g1_z
        replace g3_z := s581_z 3 _ (by decide) rfl g3_z
        replace g4_z := s581_z 4 _ (by decide) rfl g4_z
        clear s581_z s582_z
        replace hm_z := rn_goto (am_cur_of (i := (136, 3, .goto (-87), (29, 0, 0), 0)) (by decide +kernel)) hm_z
        replace hm_z := rn_iload_n (am_cur_of (i := (49, 1, .iload_n 2, (0, 0, 0), 0)) (by decide +kernel)) g2_z hm_z
        replace hm_z := rn_bipush (w := 7) (am_cur_of (i := (50, 2, .bipush 7, (0, 0, 0), 0)) (by decide +kernel)) (by decide) hm_z
        replace hm_z := rn_cmpF (am_cur_of (i := (52, 3, .if_icmp .ge 87, (79, 0, 0), 0)) (by decide +kernel)) (by decide) hm_z
        replace hm_z := rn_iload_n (am_cur_of (i := (55, 1, .iload_n 2, (0, 0, 0), 0)) (by decide +kernel)) g2_z hm_z
        replace hm_z := rn_ifF (am_cur_of (i := (56, 3, .ifCond .eq 13, (40, 0, 0), 0)) (by decide +kernel)) (by decide) hm_z
        replace hm_z := rn_iload_n (am_cur_of (i := (59, 1, .iload_n 2, (0, 0, 0), 0)) (by decide +kernel)) g2_z hm_z
        replace hm_z := rn_iconst (w := 2) (am_cur_of (i := (60, 1, .iconst 2, (0, 0, 0), 0)) (by decide +kernel)) (by decide) hm_z
        replace hm_z := rn_cmpF (am_cur_of (i := (61, 3, .if_icmp .eq 8, (40, 0, 0), 0)) (by decide +kernel)) (by decide) hm_z
        replace hm_z := rn_iload_n (am_cur_of (i := (64, 1, .iload_n 2, (0, 0, 0), 0)) (by decide +kernel)) g2_z hm_z
        replace hm_z := rn_iconst (w := 3) (am_cur_of (i := (65, 1, .iconst 3, (0, 0, 0), 0)) (by decide +kernel)) (by decide) hm_z
        replace hm_z := rn_cmpT (am_cur_of (i := (66, 3, .if_icmp .ne 7, (42, 0, 0), 0)) (by decide +kernel)) (by decide) hm_z
        replace hm_z := rn_iconst (w := 0) (am_cur_of (i := (73, 1, .iconst 0, (0, 0, 0), 0)) (by decide +kernel)) (by decide) hm_z
        replace hm_z := rn_istore_n (am_cur_of (i := (74, 1, .istore_n 3, (0, 0, 0), 0)) (by decide +kernel)) hm_z
        obtain ⟨_, s583_z, s584_z, g3_z, hm_z⟩ := hm_z
        replace g0_z := s583_z 0 _ (by decide) rfl g0_z
        replace g1_z := s583_z 1 _ (by decide) rfl g1_z
        replace g2_z := s583_z 2 _ (by decide) rfl g2_z
        replace g4_z := s583_z 4 _ (by decide) rfl g4_z
        clear s583_z s584_z
        replace hm_z := rn_iload_n (am_cur_of (i := (75, 1, .iload_n 2, (0, 0, 0), 0)) (by decide +kernel)) g2_z hm_z
        replace hm_z := rn_iconst (w := 1) (am_cur_of (i := (76, 1, .iconst 1, (0, 0, 0), 0)) (by decide +kernel)) (by decide) hm_z
        replace hm_z := rn_cmpT (am_cur_of (i := (77, 3, .if_icmp .eq 8, (50, 0, 0), 0)) (by decide +kernel)) (by decide) hm_z
        replace hm_z := rn_bipush (w := 20) (am_cur_of (i := (85, 2, .bipush 20, (0, 0, 0), 0)) (by decide +kernel)) (by decide) hm_z
        replace hm_z := rn_goto (am_cur_of (i := (87, 3, .goto 20, (61, 0, 0), 0)) (by decide +kernel)) hm_z
        replace hm_z := rn_istore (am_cur_of (i := (107, 2, .istore 4, (0, 0, 0), 0)) (by decide +kernel)) hm_z
        obtain ⟨_, s585_z, s586_z, g4_z, hm_z⟩ := hm_z
        replace g0_z := s585_z 0 _ (by decide) rfl g0_z
        replace g1_z := s585_z 1 _ (by decide) rfl g1_z
        replace g2_z := s585_z 2 _ (by decide) rfl g2_z
        replace g3_z := s585_z 3 _ (by decide) rfl g3_z
        clear s585_z s586_z
        replace hm_z := rn_aload_n (am_cur_of (i := (109, 1, .aload_n 0, (0, 0, 0), 0)) (by decide +kernel)) g0_z hm_z
        replace hm_z := rn_iload_n (am_cur_of (i := (110, 1, .iload_n 3, (0, 0, 0), 0)) (by decide +kernel)) g3_z hm_z
        replace hm_z := rn_iload (am_cur_of (i := (111, 2, .iload 4, (0, 0, 0), 0)) (by decide +kernel)) g4_z hm_z
        replace hm_z := rn_callV (M' := am_m161) (o := 164) (ar := [.int 20, .int 0]) (rest := []) (L := lv_args 0 [.ref 164, .int 0, .int 20]) (am_cur_of (i := (113, 3, .invokevirtual 197, (161, 1677, 3), 0)) (by decide +kernel)) rfl rfl rfl rfl hm_z
        obtain ⟨r587_z, h588_z, q589_z, hm_z⟩ := hm_z
        obtain ⟨v590_z, rfl⟩ := rn_ret (M := am_m161) rfl (by decide) q589_z
        have K590 := kp_of (a := 161) (by decide) rfl (as := [.ref 164, .int 0, .int 20]) (ra_Sc (fun _ e => by cases e; rfl) (ra_Sc (ra_Vi) (ra_Sc (ra_Vi) ra_S0))) q589_z
        have z590_z := zM_t (zM_u (o := 170) (k := 49) (by decide) z578_z) K590.1
        have e17_590 : rg_v h588_z 164 17 = 3 := (K590.2 17 (by decide)).trans (show rg_v (am_up h576_z 170 49 (.int (rg_v h576_z 164 11))) 164 17 = 3 from e17_578)
        have e18_590 : rg_v h588_z 164 18 = ct := (K590.2 18 (by decide)).trans (show rg_v (am_up h576_z 170 49 (.int (rg_v h576_z 164 11))) 164 18 = ct from e18_578)
        have e19_590 : rg_v h588_z 164 19 = cl := (K590.2 19 (by decide)).trans (show rg_v (am_up h576_z 170 49 (.int (rg_v h576_z 164 11))) 164 19 = cl from e19_578)
        have e20_590 : rg_v h588_z 164 20 = cq := (K590.2 20 (by decide)).trans (show rg_v (am_up h576_z 170 49 (.int (rg_v h576_z 164 11))) 164 20 = cq from e20_578)
        replace hm_z : rn _ _ _ _ [.int v590_z] _ _ _ := hm_z
        replace hm_z := rn_if (am_cur_of (i := (116, 3, .ifCond .ne 5, (69, 0, 0), 0)) (by decide +kernel)) hm_z
        rcases hm_z with ⟨b591_z, hm_z⟩ | ⟨b591_z, hm_z⟩
        · replace b591_z : ¬ v590_z = (0 : Int32) ∧ ¬ v590_z.toInt = (0 : Int32).toInt := b591_z
          replace hm_z := rn_aload_n (am_cur_of (i := (121, 1, .aload_n 0, (0, 0, 0), 0)) (by decide +kernel)) g0_z hm_z
          replace hm_z := rn_getR (x := 170) (am_cur_of (i := (122, 3, .getfield 30, (12, 25, 1409), 0)) (by decide +kernel)) (by decide +kernel) hm_z
          replace hm_z := rn_iload_n (am_cur_of (i := (125, 1, .iload_n 1, (0, 0, 0), 0)) (by decide +kernel)) g1_z hm_z
          replace hm_z := rn_iload_n (am_cur_of (i := (126, 1, .iload_n 2, (0, 0, 0), 0)) (by decide +kernel)) g2_z hm_z
          replace hm_z := rn_iadd (w := 50) (am_cur_of (i := (127, 1, .iadd, (0, 0, 0), 0)) (by decide +kernel)) (by decide) hm_z
          replace hm_z := rn_aload_n (am_cur_of (i := (128, 1, .aload_n 0, (0, 0, 0), 0)) (by decide +kernel)) g0_z hm_z
          replace hm_z := rn_getI (v := rg_v h588_z 164 11) (am_cur_of (i := (129, 3, .getfield 188, (12, 11, 1395), 0)) (by decide +kernel)) (by decide +kernel) rfl hm_z
          replace hm_z := rn_iastore (N := 56) (q := 50) (am_cur_of (i := (132, 1, .iastore, (0, 0, 0), 0)) (by decide +kernel)) (by decide +kernel) rfl hm_z
          obtain ⟨p592_z, hm_z⟩ := hm_z
          replace hm_z := rn_iinc (w := 2) (am_cur_of (i := (133, 3, .iinc 2 1, (0, 0, 0), 0)) (by decide +kernel)) g2_z (by decide) hm_z
          obtain ⟨_, s593_z, s594_z, g2_z, hm_z⟩ := hm_z
          replace g0_z := s593_z 0 _ (by decide) rfl g0_z
          replace g1_z := s593_z 1 _ (by decide) rfl g1_z
          replace g3_z := s593_z 3 _ (by decide) rfl g3_z
          replace g4_z := s593_z 4 _ (by decide) rfl g4_z
          clear s593_z s594_z
          replace hm_z := rn_goto (am_cur_of (i := (136, 3, .goto (-87), (29, 0, 0), 0)) (by decide +kernel)) hm_z
          replace hm_z := rn_iload_n (am_cur_of (i := (49, 1, .iload_n 2, (0, 0, 0), 0)) (by decide +kernel)) g2_z hm_z
          replace hm_z := rn_bipush (w := 7) (am_cur_of (i := (50, 2, .bipush 7, (0, 0, 0), 0)) (by decide +kernel)) (by decide) hm_z
          replace hm_z := rn_cmpF (am_cur_of (i := (52, 3, .if_icmp .ge 87, (79, 0, 0), 0)) (by decide +kernel)) (by decide) hm_z
          replace hm_z := rn_iload_n (am_cur_of (i := (55, 1, .iload_n 2, (0, 0, 0), 0)) (by decide +kernel)) g2_z hm_z
          replace hm_z := rn_ifF (am_cur_of (i := (56, 3, .ifCond .eq 13, (40, 0, 0), 0)) (by decide +kernel)) (by decide) hm_z
          replace hm_z := rn_iload_n (am_cur_of (i := (59, 1, .iload_n 2, (0, 0, 0), 0)) (by decide +kernel)) g2_z hm_z
          replace hm_z := rn_iconst (w := 2) (am_cur_of (i := (60, 1, .iconst 2, (0, 0, 0), 0)) (by decide +kernel)) (by decide) hm_z
          replace hm_z := rn_cmpT (am_cur_of (i := (61, 3, .if_icmp .eq 8, (40, 0, 0), 0)) (by decide +kernel)) (by decide) hm_z
          replace hm_z := rn_iconst (w := 1) (am_cur_of (i := (69, 1, .iconst 1, (0, 0, 0), 0)) (by decide +kernel)) (by decide) hm_z
          replace hm_z := rn_goto (am_cur_of (i := (70, 3, .goto 4, (43, 0, 0), 0)) (by decide +kernel)) hm_z
          replace hm_z := rn_istore_n (am_cur_of (i := (74, 1, .istore_n 3, (0, 0, 0), 0)) (by decide +kernel)) hm_z
          obtain ⟨_, s595_z, s596_z, g3_z, hm_z⟩ := hm_z
          replace g0_z := s595_z 0 _ (by decide) rfl g0_z
          replace g1_z := s595_z 1 _ (by decide) rfl g1_z
          replace g2_z := s595_z 2 _ (by decide) rfl g2_z
          replace g4_z := s595_z 4 _ (by decide) rfl g4_z
          clear s595_z s596_z
          replace hm_z := rn_iload_n (am_cur_of (i := (75, 1, .iload_n 2, (0, 0, 0), 0)) (by decide +kernel)) g2_z hm_z
          replace hm_z := rn_iconst (w := 1) (am_cur_of (i := (76, 1, .iconst 1, (0, 0, 0), 0)) (by decide +kernel)) (by decide) hm_z
          replace hm_z := rn_cmpF (am_cur_of (i := (77, 3, .if_icmp .eq 8, (50, 0, 0), 0)) (by decide +kernel)) (by decide) hm_z
          replace hm_z := rn_iload_n (am_cur_of (i := (80, 1, .iload_n 2, (0, 0, 0), 0)) (by decide +kernel)) g2_z hm_z
          replace hm_z := rn_iconst (w := 2) (am_cur_of (i := (81, 1, .iconst 2, (0, 0, 0), 0)) (by decide +kernel)) (by decide) hm_z
          replace hm_z := rn_cmpF (am_cur_of (i := (82, 3, .if_icmp .ne 8, (52, 0, 0), 0)) (by decide +kernel)) (by decide) hm_z
          replace hm_z := rn_bipush (w := 20) (am_cur_of (i := (85, 2, .bipush 20, (0, 0, 0), 0)) (by decide +kernel)) (by decide) hm_z
          replace hm_z := rn_goto (am_cur_of (i := (87, 3, .goto 20, (61, 0, 0), 0)) (by decide +kernel)) hm_z
          replace hm_z := rn_istore (am_cur_of (i := (107, 2, .istore 4, (0, 0, 0), 0)) (by decide +kernel)) hm_z
          obtain ⟨_, s597_z, s598_z, g4_z, hm_z⟩ := hm_z
          replace g0_z := s597_z 0 _ (by decide) rfl g0_z
          replace g1_z := s597_z 1 _ (by decide) rfl g1_z
          replace g2_z := s597_z 2 _ (by decide) rfl g2_z
          replace g3_z := s597_z 3 _ (by decide) rfl g3_z
          clear s597_z s598_z
          replace hm_z := rn_aload_n (am_cur_of (i := (109, 1, .aload_n 0, (0, 0, 0), 0)) (by decide +kernel)) g0_z hm_z
          replace hm_z := rn_iload_n (am_cur_of (i := (110, 1, .iload_n 3, (0, 0, 0), 0)) (by decide +kernel)) g3_z hm_z
          replace hm_z := rn_iload (am_cur_of (i := (111, 2, .iload 4, (0, 0, 0), 0)) (by decide +kernel)) g4_z hm_z
          replace hm_z := rn_callV (M' := am_m161) (o := 164) (ar := [.int 20, .int 1]) (rest := []) (L := lv_args 0 [.ref 164, .int 1, .int 20]) (am_cur_of (i := (113, 3, .invokevirtual 197, (161, 1677, 3), 0)) (by decide +kernel)) rfl rfl rfl rfl hm_z
          obtain ⟨r599_z, h600_z, q601_z, hm_z⟩ := hm_z
          obtain ⟨v602_z, rfl⟩ := rn_ret (M := am_m161) rfl (by decide) q601_z
          have K602 := kp_of (a := 161) (by decide) rfl (as := [.ref 164, .int 1, .int 20]) (ra_Sc (fun _ e => by cases e; rfl) (ra_Sc (ra_Vi) (ra_Sc (ra_Vi) ra_S0))) q601_z
          have z602_z := zM_t (zM_u (o := 170) (k := 50) (by decide) z590_z) K602.1
          have e17_602 : rg_v h600_z 164 17 = 3 := (K602.2 17 (by decide)).trans (show rg_v (am_up h588_z 170 50 (.int (rg_v h588_z 164 11))) 164 17 = 3 from e17_590)
          have e18_602 : rg_v h600_z 164 18 = ct := (K602.2 18 (by decide)).trans (show rg_v (am_up h588_z 170 50 (.int (rg_v h588_z 164 11))) 164 18 = ct from e18_590)
          have e19_602 : rg_v h600_z 164 19 = cl := (K602.2 19 (by decide)).trans (show rg_v (am_up h588_z 170 50 (.int (rg_v h588_z 164 11))) 164 19 = cl from e19_590)
          have e20_602 : rg_v h600_z 164 20 = cq := (K602.2 20 (by decide)).trans (show rg_v (am_up h588_z 170 50 (.int (rg_v h588_z 164 11))) 164 20 = cq from e20_590)
          replace hm_z : rn _ _ _ _ [.int v602_z] _ _ _ := hm_z
          replace hm_z := rn_if (am_cur_of (i := (116, 3, .ifCond .ne 5, (69, 0, 0), 0)) (by decide +kernel)) hm_z
          rcases hm_z with ⟨b603_z, hm_z⟩ | ⟨b603_z, hm_z⟩
          · replace b603_z : ¬ v602_z = (0 : Int32) ∧ ¬ v602_z.toInt = (0 : Int32).toInt := b603_z
            replace hm_z := rn_aload_n (am_cur_of (i := (121, 1, .aload_n 0, (0, 0, 0), 0)) (by decide +kernel)) g0_z hm_z
            replace hm_z := rn_getR (x := 170) (am_cur_of (i := (122, 3, .getfield 30, (12, 25, 1409), 0)) (by decide +kernel)) (by decide +kernel) hm_z
            replace hm_z := rn_iload_n (am_cur_of (i := (125, 1, .iload_n 1, (0, 0, 0), 0)) (by decide +kernel)) g1_z hm_z
            replace hm_z := rn_iload_n (am_cur_of (i := (126, 1, .iload_n 2, (0, 0, 0), 0)) (by decide +kernel)) g2_z hm_z
            replace hm_z := rn_iadd (w := 51) (am_cur_of (i := (127, 1, .iadd, (0, 0, 0), 0)) (by decide +kernel)) (by decide) hm_z
            replace hm_z := rn_aload_n (am_cur_of (i := (128, 1, .aload_n 0, (0, 0, 0), 0)) (by decide +kernel)) g0_z hm_z
            replace hm_z := rn_getI (v := rg_v h600_z 164 11) (am_cur_of (i := (129, 3, .getfield 188, (12, 11, 1395), 0)) (by decide +kernel)) (by decide +kernel) rfl hm_z
            replace hm_z := rn_iastore (N := 56) (q := 51) (am_cur_of (i := (132, 1, .iastore, (0, 0, 0), 0)) (by decide +kernel)) (by decide +kernel) rfl hm_z
            obtain ⟨p604_z, hm_z⟩ := hm_z
            replace hm_z := rn_iinc (w := 3) (am_cur_of (i := (133, 3, .iinc 2 1, (0, 0, 0), 0)) (by decide +kernel)) g2_z (by decide) hm_z
            obtain ⟨_, s605_z, s606_z, g2_z, hm_z⟩ := hm_z
            replace g0_z := s605_z 0 _ (by decide) rfl g0_z
            replace g1_z := s605_z 1 _ (by decide) rfl g1_z
            replace g3_z := s605_z 3 _ (by decide) rfl g3_z
            replace g4_z := s605_z 4 _ (by decide) rfl g4_z
            clear s605_z s606_z
            replace hm_z := rn_goto (am_cur_of (i := (136, 3, .goto (-87), (29, 0, 0), 0)) (by decide +kernel)) hm_z
            replace hm_z := rn_iload_n (am_cur_of (i := (49, 1, .iload_n 2, (0, 0, 0), 0)) (by decide +kernel)) g2_z hm_z
            replace hm_z := rn_bipush (w := 7) (am_cur_of (i := (50, 2, .bipush 7, (0, 0, 0), 0)) (by decide +kernel)) (by decide) hm_z
            replace hm_z := rn_cmpF (am_cur_of (i := (52, 3, .if_icmp .ge 87, (79, 0, 0), 0)) (by decide +kernel)) (by decide) hm_z
            replace hm_z := rn_iload_n (am_cur_of (i := (55, 1, .iload_n 2, (0, 0, 0), 0)) (by decide +kernel)) g2_z hm_z
            replace hm_z := rn_ifF (am_cur_of (i := (56, 3, .ifCond .eq 13, (40, 0, 0), 0)) (by decide +kernel)) (by decide) hm_z
            replace hm_z := rn_iload_n (am_cur_of (i := (59, 1, .iload_n 2, (0, 0, 0), 0)) (by decide +kernel)) g2_z hm_z
            replace hm_z := rn_iconst (w := 2) (am_cur_of (i := (60, 1, .iconst 2, (0, 0, 0), 0)) (by decide +kernel)) (by decide) hm_z
            replace hm_z := rn_cmpF (am_cur_of (i := (61, 3, .if_icmp .eq 8, (40, 0, 0), 0)) (by decide +kernel)) (by decide) hm_z
            replace hm_z := rn_iload_n (am_cur_of (i := (64, 1, .iload_n 2, (0, 0, 0), 0)) (by decide +kernel)) g2_z hm_z
            replace hm_z := rn_iconst (w := 3) (am_cur_of (i := (65, 1, .iconst 3, (0, 0, 0), 0)) (by decide +kernel)) (by decide) hm_z
            replace hm_z := rn_cmpF (am_cur_of (i := (66, 3, .if_icmp .ne 7, (42, 0, 0), 0)) (by decide +kernel)) (by decide) hm_z
            replace hm_z := rn_iconst (w := 1) (am_cur_of (i := (69, 1, .iconst 1, (0, 0, 0), 0)) (by decide +kernel)) (by decide) hm_z
            replace hm_z := rn_goto (am_cur_of (i := (70, 3, .goto 4, (43, 0, 0), 0)) (by decide +kernel)) hm_z
            replace hm_z := rn_istore_n (am_cur_of (i := (74, 1, .istore_n 3, (0, 0, 0), 0)) (by decide +kernel)) hm_z
            obtain ⟨_, s607_z, s608_z, g3_z, hm_z⟩ := hm_z
            replace g0_z := s607_z 0 _ (by decide) rfl g0_z
            replace g1_z := s607_z 1 _ (by decide) rfl g1_z
            replace g2_z := s607_z 2 _ (by decide) rfl g2_z
            replace g4_z := s607_z 4 _ (by decide) rfl g4_z
            clear s607_z s608_z
            replace hm_z := rn_iload_n (am_cur_of (i := (75, 1, .iload_n 2, (0, 0, 0), 0)) (by decide +kernel)) g2_z hm_z
            replace hm_z := rn_iconst (w := 1) (am_cur_of (i := (76, 1, .iconst 1, (0, 0, 0), 0)) (by decide +kernel)) (by decide) hm_z
            replace hm_z := rn_cmpF (am_cur_of (i := (77, 3, .if_icmp .eq 8, (50, 0, 0), 0)) (by decide +kernel)) (by decide) hm_z
            replace hm_z := rn_iload_n (am_cur_of (i := (80, 1, .iload_n 2, (0, 0, 0), 0)) (by decide +kernel)) g2_z hm_z
            replace hm_z := rn_iconst (w := 2) (am_cur_of (i := (81, 1, .iconst 2, (0, 0, 0), 0)) (by decide +kernel)) (by decide) hm_z
            replace hm_z := rn_cmpT (am_cur_of (i := (82, 3, .if_icmp .ne 8, (52, 0, 0), 0)) (by decide +kernel)) (by decide) hm_z
            replace hm_z := rn_iload_n (am_cur_of (i := (90, 1, .iload_n 2, (0, 0, 0), 0)) (by decide +kernel)) g2_z hm_z
            replace hm_z := rn_iconst (w := 3) (am_cur_of (i := (91, 1, .iconst 3, (0, 0, 0), 0)) (by decide +kernel)) (by decide) hm_z
            replace hm_z := rn_cmpT (am_cur_of (i := (92, 3, .if_icmp .eq 8, (58, 0, 0), 0)) (by decide +kernel)) (by decide) hm_z
            replace hm_z := rn_bipush (w := 9) (am_cur_of (i := (100, 2, .bipush 9, (0, 0, 0), 0)) (by decide +kernel)) (by decide) hm_z
            replace hm_z := rn_goto (am_cur_of (i := (102, 3, .goto 5, (61, 0, 0), 0)) (by decide +kernel)) hm_z
            replace hm_z := rn_istore (am_cur_of (i := (107, 2, .istore 4, (0, 0, 0), 0)) (by decide +kernel)) hm_z
            obtain ⟨_, s609_z, s610_z, g4_z, hm_z⟩ := hm_z
            replace g0_z := s609_z 0 _ (by decide) rfl g0_z
            replace g1_z := s609_z 1 _ (by decide) rfl g1_z
            replace g2_z := s609_z 2 _ (by decide) rfl g2_z
            replace g3_z := s609_z 3 _ (by decide) rfl g3_z
            clear s609_z s610_z
            replace hm_z := rn_aload_n (am_cur_of (i := (109, 1, .aload_n 0, (0, 0, 0), 0)) (by decide +kernel)) g0_z hm_z
            replace hm_z := rn_iload_n (am_cur_of (i := (110, 1, .iload_n 3, (0, 0, 0), 0)) (by decide +kernel)) g3_z hm_z
            replace hm_z := rn_iload (am_cur_of (i := (111, 2, .iload 4, (0, 0, 0), 0)) (by decide +kernel)) g4_z hm_z
            replace hm_z := rn_callV (M' := am_m161) (o := 164) (ar := [.int 9, .int 1]) (rest := []) (L := lv_args 0 [.ref 164, .int 1, .int 9]) (am_cur_of (i := (113, 3, .invokevirtual 197, (161, 1677, 3), 0)) (by decide +kernel)) rfl rfl rfl rfl hm_z
            obtain ⟨r611_z, h612_z, q613_z, hm_z⟩ := hm_z
            obtain ⟨v614_z, rfl⟩ := rn_ret (M := am_m161) rfl (by decide) q613_z
            have K614 := kp_of (a := 161) (by decide) rfl (as := [.ref 164, .int 1, .int 9]) (ra_Sc (fun _ e => by cases e; rfl) (ra_Sc (ra_Vi) (ra_Sc (ra_Vi) ra_S0))) q613_z
            have z614_z := zM_t (zM_u (o := 170) (k := 51) (by decide) z602_z) K614.1
            have e17_614 : rg_v h612_z 164 17 = 3 := (K614.2 17 (by decide)).trans (show rg_v (am_up h600_z 170 51 (.int (rg_v h600_z 164 11))) 164 17 = 3 from e17_602)
            have e18_614 : rg_v h612_z 164 18 = ct := (K614.2 18 (by decide)).trans (show rg_v (am_up h600_z 170 51 (.int (rg_v h600_z 164 11))) 164 18 = ct from e18_602)
            have e19_614 : rg_v h612_z 164 19 = cl := (K614.2 19 (by decide)).trans (show rg_v (am_up h600_z 170 51 (.int (rg_v h600_z 164 11))) 164 19 = cl from e19_602)
            have e20_614 : rg_v h612_z 164 20 = cq := (K614.2 20 (by decide)).trans (show rg_v (am_up h600_z 170 51 (.int (rg_v h600_z 164 11))) 164 20 = cq from e20_602)
            replace hm_z : rn _ _ _ _ [.int v614_z] _ _ _ := hm_z
            replace hm_z := rn_if (am_cur_of (i := (116, 3, .ifCond .ne 5, (69, 0, 0), 0)) (by decide +kernel)) hm_z
            rcases hm_z with ⟨b615_z, hm_z⟩ | ⟨b615_z, hm_z⟩
            · replace b615_z : ¬ v614_z = (0 : Int32) ∧ ¬ v614_z.toInt = (0 : Int32).toInt := b615_z
              replace hm_z := rn_aload_n (am_cur_of (i := (121, 1, .aload_n 0, (0, 0, 0), 0)) (by decide +kernel)) g0_z hm_z
              replace hm_z := rn_getR (x := 170) (am_cur_of (i := (122, 3, .getfield 30, (12, 25, 1409), 0)) (by decide +kernel)) (by decide +kernel) hm_z
              replace hm_z := rn_iload_n (am_cur_of (i := (125, 1, .iload_n 1, (0, 0, 0), 0)) (by decide +kernel)) g1_z hm_z
              replace hm_z := rn_iload_n (am_cur_of (i := (126, 1, .iload_n 2, (0, 0, 0), 0)) (by decide +kernel)) g2_z hm_z
              replace hm_z := rn_iadd (w := 52) (am_cur_of (i := (127, 1, .iadd, (0, 0, 0), 0)) (by decide +kernel)) (by decide) hm_z
              replace hm_z := rn_aload_n (am_cur_of (i := (128, 1, .aload_n 0, (0, 0, 0), 0)) (by decide +kernel)) g0_z hm_z
              replace hm_z := rn_getI (v := rg_v h612_z 164 11) (am_cur_of (i := (129, 3, .getfield 188, (12, 11, 1395), 0)) (by decide +kernel)) (by decide +kernel) rfl hm_z
              replace hm_z := rn_iastore (N := 56) (q := 52) (am_cur_of (i := (132, 1, .iastore, (0, 0, 0), 0)) (by decide +kernel)) (by decide +kernel) rfl hm_z
              obtain ⟨p616_z, hm_z⟩ := hm_z
              replace hm_z := rn_iinc (w := 4) (am_cur_of (i := (133, 3, .iinc 2 1, (0, 0, 0), 0)) (by decide +kernel)) g2_z (by decide) hm_z
              obtain ⟨_, s617_z, s618_z, g2_z, hm_z⟩ := hm_z
              replace g0_z := s617_z 0 _ (by decide) rfl g0_z
              replace g1_z := s617_z 1 _ (by decide) rfl g1_z
              replace g3_z := s617_z 3 _ (by decide) rfl g3_z
              replace g4_z := s617_z 4 _ (by decide) rfl g4_z
              clear s617_z s618_z
              replace hm_z := rn_goto (am_cur_of (i := (136, 3, .goto (-87), (29, 0, 0), 0)) (by decide +kernel)) hm_z
              replace hm_z := rn_iload_n (am_cur_of (i := (49, 1, .iload_n 2, (0, 0, 0), 0)) (by decide +kernel)) g2_z hm_z
              replace hm_z := rn_bipush (w := 7) (am_cur_of (i := (50, 2, .bipush 7, (0, 0, 0), 0)) (by decide +kernel)) (by decide) hm_z
              replace hm_z := rn_cmpF (am_cur_of (i := (52, 3, .if_icmp .ge 87, (79, 0, 0), 0)) (by decide +kernel)) (by decide) hm_z
              replace hm_z := rn_iload_n (am_cur_of (i := (55, 1, .iload_n 2, (0, 0, 0), 0)) (by decide +kernel)) g2_z hm_z
              replace hm_z := rn_ifF (am_cur_of (i := (56, 3, .ifCond .eq 13, (40, 0, 0), 0)) (by decide +kernel)) (by decide) hm_z
              replace hm_z := rn_iload_n (am_cur_of (i := (59, 1, .iload_n 2, (0, 0, 0), 0)) (by decide +kernel)) g2_z hm_z
              replace hm_z := rn_iconst (w := 2) (am_cur_of (i := (60, 1, .iconst 2, (0, 0, 0), 0)) (by decide +kernel)) (by decide) hm_z
              replace hm_z := rn_cmpF (am_cur_of (i := (61, 3, .if_icmp .eq 8, (40, 0, 0), 0)) (by decide +kernel)) (by decide) hm_z
              replace hm_z := rn_iload_n (am_cur_of (i := (64, 1, .iload_n 2, (0, 0, 0), 0)) (by decide +kernel)) g2_z hm_z
              replace hm_z := rn_iconst (w := 3) (am_cur_of (i := (65, 1, .iconst 3, (0, 0, 0), 0)) (by decide +kernel)) (by decide) hm_z
              replace hm_z := rn_cmpT (am_cur_of (i := (66, 3, .if_icmp .ne 7, (42, 0, 0), 0)) (by decide +kernel)) (by decide) hm_z
              replace hm_z := rn_iconst (w := 0) (am_cur_of (i := (73, 1, .iconst 0, (0, 0, 0), 0)) (by decide +kernel)) (by decide) hm_z
              replace hm_z := rn_istore_n (am_cur_of (i := (74, 1, .istore_n 3, (0, 0, 0), 0)) (by decide +kernel)) hm_z
              obtain ⟨_, s619_z, s620_z, g3_z, hm_z⟩ := hm_z
              replace g0_z := s619_z 0 _ (by decide) rfl g0_z
              replace g1_z := s619_z 1 _ (by decide) rfl g1_z
              replace g2_z := s619_z 2 _ (by decide) rfl g2_z
              replace g4_z := s619_z 4 _ (by decide) rfl g4_z
              clear s619_z s620_z
              replace hm_z := rn_iload_n (am_cur_of (i := (75, 1, .iload_n 2, (0, 0, 0), 0)) (by decide +kernel)) g2_z hm_z
              replace hm_z := rn_iconst (w := 1) (am_cur_of (i := (76, 1, .iconst 1, (0, 0, 0), 0)) (by decide +kernel)) (by decide) hm_z
              replace hm_z := rn_cmpF (am_cur_of (i := (77, 3, .if_icmp .eq 8, (50, 0, 0), 0)) (by decide +kernel)) (by decide) hm_z
              replace hm_z := rn_iload_n (am_cur_of (i := (80, 1, .iload_n 2, (0, 0, 0), 0)) (by decide +kernel)) g2_z hm_z
              replace hm_z := rn_iconst (w := 2) (am_cur_of (i := (81, 1, .iconst 2, (0, 0, 0), 0)) (by decide +kernel)) (by decide) hm_z
              replace hm_z := rn_cmpT (am_cur_of (i := (82, 3, .if_icmp .ne 8, (52, 0, 0), 0)) (by decide +kernel)) (by decide) hm_z
              replace hm_z := rn_iload_n (am_cur_of (i := (90, 1, .iload_n 2, (0, 0, 0), 0)) (by decide +kernel)) g2_z hm_z
              replace hm_z := rn_iconst (w := 3) (am_cur_of (i := (91, 1, .iconst 3, (0, 0, 0), 0)) (by decide +kernel)) (by decide) hm_z
              replace hm_z := rn_cmpF (am_cur_of (i := (92, 3, .if_icmp .eq 8, (58, 0, 0), 0)) (by decide +kernel)) (by decide) hm_z
              replace hm_z := rn_iload_n (am_cur_of (i := (95, 1, .iload_n 2, (0, 0, 0), 0)) (by decide +kernel)) g2_z hm_z
              replace hm_z := rn_iconst (w := 5) (am_cur_of (i := (96, 1, .iconst 5, (0, 0, 0), 0)) (by decide +kernel)) (by decide) hm_z
              replace hm_z := rn_cmpT (am_cur_of (i := (97, 3, .if_icmp .ne 8, (60, 0, 0), 0)) (by decide +kernel)) (by decide) hm_z
              replace hm_z := rn_bipush (w := 99) (am_cur_of (i := (105, 2, .bipush 99, (0, 0, 0), 0)) (by decide +kernel)) (by decide) hm_z
              replace hm_z := rn_istore (am_cur_of (i := (107, 2, .istore 4, (0, 0, 0), 0)) (by decide +kernel)) hm_z
              obtain ⟨_, s621_z, s622_z, g4_z, hm_z⟩ := hm_z
              replace g0_z := s621_z 0 _ (by decide) rfl g0_z
              replace g1_z := s621_z 1 _ (by decide) rfl g1_z
              replace g2_z := s621_z 2 _ (by decide) rfl g2_z
              replace g3_z := s621_z 3 _ (by decide) rfl g3_z
              clear s621_z s622_z
              replace hm_z := rn_aload_n (am_cur_of (i := (109, 1, .aload_n 0, (0, 0, 0), 0)) (by decide +kernel)) g0_z hm_z
              replace hm_z := rn_iload_n (am_cur_of (i := (110, 1, .iload_n 3, (0, 0, 0), 0)) (by decide +kernel)) g3_z hm_z
              replace hm_z := rn_iload (am_cur_of (i := (111, 2, .iload 4, (0, 0, 0), 0)) (by decide +kernel)) g4_z hm_z
              replace hm_z := rn_callV (M' := am_m161) (o := 164) (ar := [.int 99, .int 0]) (rest := []) (L := lv_args 0 [.ref 164, .int 0, .int 99]) (am_cur_of (i := (113, 3, .invokevirtual 197, (161, 1677, 3), 0)) (by decide +kernel)) rfl rfl rfl rfl hm_z
              obtain ⟨r623_z, h624_z, q625_z, hm_z⟩ := hm_z
              obtain ⟨v626_z, rfl⟩ := rn_ret (M := am_m161) rfl (by decide) q625_z
              have K626 := kp_of (a := 161) (by decide) rfl (as := [.ref 164, .int 0, .int 99]) (ra_Sc (fun _ e => by cases e; rfl) (ra_Sc (ra_Vi) (ra_Sc (ra_Vi) ra_S0))) q625_z
              have z626_z := zM_t (zM_u (o := 170) (k := 52) (by decide) z614_z) K626.1
              have e17_626 : rg_v h624_z 164 17 = 3 := (K626.2 17 (by decide)).trans (show rg_v (am_up h612_z 170 52 (.int (rg_v h612_z 164 11))) 164 17 = 3 from e17_614)
              have e18_626 : rg_v h624_z 164 18 = ct := (K626.2 18 (by decide)).trans (show rg_v (am_up h612_z 170 52 (.int (rg_v h612_z 164 11))) 164 18 = ct from e18_614)
              have e19_626 : rg_v h624_z 164 19 = cl := (K626.2 19 (by decide)).trans (show rg_v (am_up h612_z 170 52 (.int (rg_v h612_z 164 11))) 164 19 = cl from e19_614)
              have e20_626 : rg_v h624_z 164 20 = cq := (K626.2 20 (by decide)).trans (show rg_v (am_up h612_z 170 52 (.int (rg_v h612_z 164 11))) 164 20 = cq from e20_614)
              replace hm_z : rn _ _ _ _ [.int v626_z] _ _ _ := hm_z
              replace hm_z := rn_if (am_cur_of (i := (116, 3, .ifCond .ne 5, (69, 0, 0), 0)) (by decide +kernel)) hm_z
              rcases hm_z with ⟨b627_z, hm_z⟩ | ⟨b627_z, hm_z⟩
              · replace b627_z : ¬ v626_z = (0 : Int32) ∧ ¬ v626_z.toInt = (0 : Int32).toInt := b627_z
                replace hm_z := rn_aload_n (am_cur_of (i := (121, 1, .aload_n 0, (0, 0, 0), 0)) (by decide +kernel)) g0_z hm_z
                replace hm_z := rn_getR (x := 170) (am_cur_of (i := (122, 3, .getfield 30, (12, 25, 1409), 0)) (by decide +kernel)) (by decide +kernel) hm_z
                replace hm_z := rn_iload_n (am_cur_of (i := (125, 1, .iload_n 1, (0, 0, 0), 0)) (by decide +kernel)) g1_z hm_z
                replace hm_z := rn_iload_n (am_cur_of (i := (126, 1, .iload_n 2, (0, 0, 0), 0)) (by decide +kernel)) g2_z hm_z
                replace hm_z := rn_iadd (w := 53) (am_cur_of (i := (127, 1, .iadd, (0, 0, 0), 0)) (by decide +kernel)) (by decide) hm_z
                replace hm_z := rn_aload_n (am_cur_of (i := (128, 1, .aload_n 0, (0, 0, 0), 0)) (by decide +kernel)) g0_z hm_z
                replace hm_z := rn_getI (v := rg_v h624_z 164 11) (am_cur_of (i := (129, 3, .getfield 188, (12, 11, 1395), 0)) (by decide +kernel)) (by decide +kernel) rfl hm_z
                replace hm_z := rn_iastore (N := 56) (q := 53) (am_cur_of (i := (132, 1, .iastore, (0, 0, 0), 0)) (by decide +kernel)) (by decide +kernel) rfl hm_z
                obtain ⟨p628_z, hm_z⟩ := hm_z
                replace hm_z := rn_iinc (w := 5) (am_cur_of (i := (133, 3, .iinc 2 1, (0, 0, 0), 0)) (by decide +kernel)) g2_z (by decide) hm_z
                obtain ⟨_, s629_z, s630_z, g2_z, hm_z⟩ := hm_z
                replace g0_z := s629_z 0 _ (by decide) rfl g0_z
                replace g1_z := s629_z 1 _ (by decide) rfl g1_z
                replace g3_z := s629_z 3 _ (by decide) rfl g3_z
                replace g4_z := s629_z 4 _ (by decide) rfl g4_z
                clear s629_z s630_z
                replace hm_z := rn_goto (am_cur_of (i := (136, 3, .goto (-87), (29, 0, 0), 0)) (by decide +kernel)) hm_z
                replace hm_z := rn_iload_n (am_cur_of (i := (49, 1, .iload_n 2, (0, 0, 0), 0)) (by decide +kernel)) g2_z hm_z
                replace hm_z := rn_bipush (w := 7) (am_cur_of (i := (50, 2, .bipush 7, (0, 0, 0), 0)) (by decide +kernel)) (by decide) hm_z
                replace hm_z := rn_cmpF (am_cur_of (i := (52, 3, .if_icmp .ge 87, (79, 0, 0), 0)) (by decide +kernel)) (by decide) hm_z
                replace hm_z := rn_iload_n (am_cur_of (i := (55, 1, .iload_n 2, (0, 0, 0), 0)) (by decide +kernel)) g2_z hm_z
                replace hm_z := rn_ifF (am_cur_of (i := (56, 3, .ifCond .eq 13, (40, 0, 0), 0)) (by decide +kernel)) (by decide) hm_z
                replace hm_z := rn_iload_n (am_cur_of (i := (59, 1, .iload_n 2, (0, 0, 0), 0)) (by decide +kernel)) g2_z hm_z
                replace hm_z := rn_iconst (w := 2) (am_cur_of (i := (60, 1, .iconst 2, (0, 0, 0), 0)) (by decide +kernel)) (by decide) hm_z
                replace hm_z := rn_cmpF (am_cur_of (i := (61, 3, .if_icmp .eq 8, (40, 0, 0), 0)) (by decide +kernel)) (by decide) hm_z
                replace hm_z := rn_iload_n (am_cur_of (i := (64, 1, .iload_n 2, (0, 0, 0), 0)) (by decide +kernel)) g2_z hm_z
                replace hm_z := rn_iconst (w := 3) (am_cur_of (i := (65, 1, .iconst 3, (0, 0, 0), 0)) (by decide +kernel)) (by decide) hm_z
                replace hm_z := rn_cmpT (am_cur_of (i := (66, 3, .if_icmp .ne 7, (42, 0, 0), 0)) (by decide +kernel)) (by decide) hm_z
                replace hm_z := rn_iconst (w := 0) (am_cur_of (i := (73, 1, .iconst 0, (0, 0, 0), 0)) (by decide +kernel)) (by decide) hm_z
                replace hm_z := rn_istore_n (am_cur_of (i := (74, 1, .istore_n 3, (0, 0, 0), 0)) (by decide +kernel)) hm_z
                obtain ⟨_, s631_z, s632_z, g3_z, hm_z⟩ := hm_z
                replace g0_z := s631_z 0 _ (by decide) rfl g0_z
                replace g1_z := s631_z 1 _ (by decide) rfl g1_z
                replace g2_z := s631_z 2 _ (by decide) rfl g2_z
                replace g4_z := s631_z 4 _ (by decide) rfl g4_z
                clear s631_z s632_z
                replace hm_z := rn_iload_n (am_cur_of (i := (75, 1, .iload_n 2, (0, 0, 0), 0)) (by decide +kernel)) g2_z hm_z
                replace hm_z := rn_iconst (w := 1) (am_cur_of (i := (76, 1, .iconst 1, (0, 0, 0), 0)) (by decide +kernel)) (by decide) hm_z
                replace hm_z := rn_cmpF (am_cur_of (i := (77, 3, .if_icmp .eq 8, (50, 0, 0), 0)) (by decide +kernel)) (by decide) hm_z
                replace hm_z := rn_iload_n (am_cur_of (i := (80, 1, .iload_n 2, (0, 0, 0), 0)) (by decide +kernel)) g2_z hm_z
                replace hm_z := rn_iconst (w := 2) (am_cur_of (i := (81, 1, .iconst 2, (0, 0, 0), 0)) (by decide +kernel)) (by decide) hm_z
                replace hm_z := rn_cmpT (am_cur_of (i := (82, 3, .if_icmp .ne 8, (52, 0, 0), 0)) (by decide +kernel)) (by decide) hm_z
                replace hm_z := rn_iload_n (am_cur_of (i := (90, 1, .iload_n 2, (0, 0, 0), 0)) (by decide +kernel)) g2_z hm_z
                replace hm_z := rn_iconst (w := 3) (am_cur_of (i := (91, 1, .iconst 3, (0, 0, 0), 0)) (by decide +kernel)) (by decide) hm_z
                replace hm_z := rn_cmpF (am_cur_of (i := (92, 3, .if_icmp .eq 8, (58, 0, 0), 0)) (by decide +kernel)) (by decide) hm_z
                replace hm_z := rn_iload_n (am_cur_of (i := (95, 1, .iload_n 2, (0, 0, 0), 0)) (by decide +kernel)) g2_z hm_z
                replace hm_z := rn_iconst (w := 5) (am_cur_of (i := (96, 1, .iconst 5, (0, 0, 0), 0)) (by decide +kernel)) (by decide) hm_z
                replace hm_z := rn_cmpF (am_cur_of (i := (97, 3, .if_icmp .ne 8, (60, 0, 0), 0)) (by decide +kernel)) (by decide) hm_z
                replace hm_z := rn_bipush (w := 9) (am_cur_of (i := (100, 2, .bipush 9, (0, 0, 0), 0)) (by decide +kernel)) (by decide) hm_z
                replace hm_z := rn_goto (am_cur_of (i := (102, 3, .goto 5, (61, 0, 0), 0)) (by decide +kernel)) hm_z
                replace hm_z := rn_istore (am_cur_of (i := (107, 2, .istore 4, (0, 0, 0), 0)) (by decide +kernel)) hm_z
                obtain ⟨_, s633_z, s634_z, g4_z, hm_z⟩ := hm_z
                replace g0_z := s633_z 0 _ (by decide) rfl g0_z
                replace g1_z := s633_z 1 _ (by decide) rfl g1_z
                replace g2_z := s633_z 2 _ (by decide) rfl g2_z
                replace g3_z := s633_z 3 _ (by decide) rfl g3_z
                clear s633_z s634_z
                replace hm_z := rn_aload_n (am_cur_of (i := (109, 1, .aload_n 0, (0, 0, 0), 0)) (by decide +kernel)) g0_z hm_z
                replace hm_z := rn_iload_n (am_cur_of (i := (110, 1, .iload_n 3, (0, 0, 0), 0)) (by decide +kernel)) g3_z hm_z
                replace hm_z := rn_iload (am_cur_of (i := (111, 2, .iload 4, (0, 0, 0), 0)) (by decide +kernel)) g4_z hm_z
                replace hm_z := rn_callV (M' := am_m161) (o := 164) (ar := [.int 9, .int 0]) (rest := []) (L := lv_args 0 [.ref 164, .int 0, .int 9]) (am_cur_of (i := (113, 3, .invokevirtual 197, (161, 1677, 3), 0)) (by decide +kernel)) rfl rfl rfl rfl hm_z
                obtain ⟨r635_z, h636_z, q637_z, hm_z⟩ := hm_z
                obtain ⟨v638_z, rfl⟩ := rn_ret (M := am_m161) rfl (by decide) q637_z
                have K638 := kp_of (a := 161) (by decide) rfl (as := [.ref 164, .int 0, .int 9]) (ra_Sc (fun _ e => by cases e; rfl) (ra_Sc (ra_Vi) (ra_Sc (ra_Vi) ra_S0))) q637_z
                have z638_z := zM_t (zM_u (o := 170) (k := 53) (by decide) z626_z) K638.1
                have e17_638 : rg_v h636_z 164 17 = 3 := (K638.2 17 (by decide)).trans (show rg_v (am_up h624_z 170 53 (.int (rg_v h624_z 164 11))) 164 17 = 3 from e17_626)
                have e18_638 : rg_v h636_z 164 18 = ct := (K638.2 18 (by decide)).trans (show rg_v (am_up h624_z 170 53 (.int (rg_v h624_z 164 11))) 164 18 = ct from e18_626)
                have e19_638 : rg_v h636_z 164 19 = cl := (K638.2 19 (by decide)).trans (show rg_v (am_up h624_z 170 53 (.int (rg_v h624_z 164 11))) 164 19 = cl from e19_626)
                have e20_638 : rg_v h636_z 164 20 = cq := (K638.2 20 (by decide)).trans (show rg_v (am_up h624_z 170 53 (.int (rg_v h624_z 164 11))) 164 20 = cq from e20_626)
                replace hm_z : rn _ _ _ _ [.int v638_z] _ _ _ := hm_z
                replace hm_z := rn_if (am_cur_of (i := (116, 3, .ifCond .ne 5, (69, 0, 0), 0)) (by decide +kernel)) hm_z
                rcases hm_z with ⟨b639_z, hm_z⟩ | ⟨b639_z, hm_z⟩
                · replace b639_z : ¬ v638_z = (0 : Int32) ∧ ¬ v638_z.toInt = (0 : Int32).toInt := b639_z
                  replace hm_z := rn_aload_n (am_cur_of (i := (121, 1, .aload_n 0, (0, 0, 0), 0)) (by decide +kernel)) g0_z hm_z
                  replace hm_z := rn_getR (x := 170) (am_cur_of (i := (122, 3, .getfield 30, (12, 25, 1409), 0)) (by decide +kernel)) (by decide +kernel) hm_z
                  replace hm_z := rn_iload_n (am_cur_of (i := (125, 1, .iload_n 1, (0, 0, 0), 0)) (by decide +kernel)) g1_z hm_z
                  replace hm_z := rn_iload_n (am_cur_of (i := (126, 1, .iload_n 2, (0, 0, 0), 0)) (by decide +kernel)) g2_z hm_z
                  replace hm_z := rn_iadd (w := 54) (am_cur_of (i := (127, 1, .iadd, (0, 0, 0), 0)) (by decide +kernel)) (by decide) hm_z
                  replace hm_z := rn_aload_n (am_cur_of (i := (128, 1, .aload_n 0, (0, 0, 0), 0)) (by decide +kernel)) g0_z hm_z
                  replace hm_z := rn_getI (v := rg_v h636_z 164 11) (am_cur_of (i := (129, 3, .getfield 188, (12, 11, 1395), 0)) (by decide +kernel)) (by decide +kernel) rfl hm_z
                  replace hm_z := rn_iastore (N := 56) (q := 54) (am_cur_of (i := (132, 1, .iastore, (0, 0, 0), 0)) (by decide +kernel)) (by decide +kernel) rfl hm_z
                  obtain ⟨p640_z, hm_z⟩ := hm_z
                  replace hm_z := rn_iinc (w := 6) (am_cur_of (i := (133, 3, .iinc 2 1, (0, 0, 0), 0)) (by decide +kernel)) g2_z (by decide) hm_z
                  obtain ⟨_, s641_z, s642_z, g2_z, hm_z⟩ := hm_z
                  replace g0_z := s641_z 0 _ (by decide) rfl g0_z
                  replace g1_z := s641_z 1 _ (by decide) rfl g1_z
                  replace g3_z := s641_z 3 _ (by decide) rfl g3_z
                  replace g4_z := s641_z 4 _ (by decide) rfl g4_z
                  clear s641_z s642_z
                  replace hm_z := rn_goto (am_cur_of (i := (136, 3, .goto (-87), (29, 0, 0), 0)) (by decide +kernel)) hm_z
                  replace hm_z := rn_iload_n (am_cur_of (i := (49, 1, .iload_n 2, (0, 0, 0), 0)) (by decide +kernel)) g2_z hm_z
                  replace hm_z := rn_bipush (w := 7) (am_cur_of (i := (50, 2, .bipush 7, (0, 0, 0), 0)) (by decide +kernel)) (by decide) hm_z
                  replace hm_z := rn_cmpF (am_cur_of (i := (52, 3, .if_icmp .ge 87, (79, 0, 0), 0)) (by decide +kernel)) (by decide) hm_z
                  replace hm_z := rn_iload_n (am_cur_of (i := (55, 1, .iload_n 2, (0, 0, 0), 0)) (by decide +kernel)) g2_z hm_z
                  replace hm_z := rn_ifF (am_cur_of (i := (56, 3, .ifCond .eq 13, (40, 0, 0), 0)) (by decide +kernel)) (by decide) hm_z
                  replace hm_z := rn_iload_n (am_cur_of (i := (59, 1, .iload_n 2, (0, 0, 0), 0)) (by decide +kernel)) g2_z hm_z
                  replace hm_z := rn_iconst (w := 2) (am_cur_of (i := (60, 1, .iconst 2, (0, 0, 0), 0)) (by decide +kernel)) (by decide) hm_z
                  replace hm_z := rn_cmpF (am_cur_of (i := (61, 3, .if_icmp .eq 8, (40, 0, 0), 0)) (by decide +kernel)) (by decide) hm_z
                  replace hm_z := rn_iload_n (am_cur_of (i := (64, 1, .iload_n 2, (0, 0, 0), 0)) (by decide +kernel)) g2_z hm_z
                  replace hm_z := rn_iconst (w := 3) (am_cur_of (i := (65, 1, .iconst 3, (0, 0, 0), 0)) (by decide +kernel)) (by decide) hm_z
                  replace hm_z := rn_cmpT (am_cur_of (i := (66, 3, .if_icmp .ne 7, (42, 0, 0), 0)) (by decide +kernel)) (by decide) hm_z
                  replace hm_z := rn_iconst (w := 0) (am_cur_of (i := (73, 1, .iconst 0, (0, 0, 0), 0)) (by decide +kernel)) (by decide) hm_z
                  replace hm_z := rn_istore_n (am_cur_of (i := (74, 1, .istore_n 3, (0, 0, 0), 0)) (by decide +kernel)) hm_z
                  obtain ⟨_, s643_z, s644_z, g3_z, hm_z⟩ := hm_z
                  replace g0_z := s643_z 0 _ (by decide) rfl g0_z
                  replace g1_z := s643_z 1 _ (by decide) rfl g1_z
                  replace g2_z := s643_z 2 _ (by decide) rfl g2_z
                  replace g4_z := s643_z 4 _ (by decide) rfl g4_z
                  clear s643_z s644_z
                  replace hm_z := rn_iload_n (am_cur_of (i := (75, 1, .iload_n 2, (0, 0, 0), 0)) (by decide +kernel)) g2_z hm_z
                  replace hm_z := rn_iconst (w := 1) (am_cur_of (i := (76, 1, .iconst 1, (0, 0, 0), 0)) (by decide +kernel)) (by decide) hm_z
                  replace hm_z := rn_cmpF (am_cur_of (i := (77, 3, .if_icmp .eq 8, (50, 0, 0), 0)) (by decide +kernel)) (by decide) hm_z
                  replace hm_z := rn_iload_n (am_cur_of (i := (80, 1, .iload_n 2, (0, 0, 0), 0)) (by decide +kernel)) g2_z hm_z
                  replace hm_z := rn_iconst (w := 2) (am_cur_of (i := (81, 1, .iconst 2, (0, 0, 0), 0)) (by decide +kernel)) (by decide) hm_z
                  replace hm_z := rn_cmpT (am_cur_of (i := (82, 3, .if_icmp .ne 8, (52, 0, 0), 0)) (by decide +kernel)) (by decide) hm_z
                  replace hm_z := rn_iload_n (am_cur_of (i := (90, 1, .iload_n 2, (0, 0, 0), 0)) (by decide +kernel)) g2_z hm_z
                  replace hm_z := rn_iconst (w := 3) (am_cur_of (i := (91, 1, .iconst 3, (0, 0, 0), 0)) (by decide +kernel)) (by decide) hm_z
                  replace hm_z := rn_cmpF (am_cur_of (i := (92, 3, .if_icmp .eq 8, (58, 0, 0), 0)) (by decide +kernel)) (by decide) hm_z
                  replace hm_z := rn_iload_n (am_cur_of (i := (95, 1, .iload_n 2, (0, 0, 0), 0)) (by decide +kernel)) g2_z hm_z
                  replace hm_z := rn_iconst (w := 5) (am_cur_of (i := (96, 1, .iconst 5, (0, 0, 0), 0)) (by decide +kernel)) (by decide) hm_z
                  replace hm_z := rn_cmpT (am_cur_of (i := (97, 3, .if_icmp .ne 8, (60, 0, 0), 0)) (by decide +kernel)) (by decide) hm_z
                  replace hm_z := rn_bipush (w := 99) (am_cur_of (i := (105, 2, .bipush 99, (0, 0, 0), 0)) (by decide +kernel)) (by decide) hm_z
                  replace hm_z := rn_istore (am_cur_of (i := (107, 2, .istore 4, (0, 0, 0), 0)) (by decide +kernel)) hm_z
                  obtain ⟨_, s645_z, s646_z, g4_z, hm_z⟩ := hm_z
                  replace g0_z := s645_z 0 _ (by decide) rfl g0_z
                  replace g1_z := s645_z 1 _ (by decide) rfl g1_z
                  replace g2_z := s645_z 2 _ (by decide) rfl g2_z
                  replace g3_z := s645_z 3 _ (by decide) rfl g3_z
                  clear s645_z s646_z
                  replace hm_z := rn_aload_n (am_cur_of (i := (109, 1, .aload_n 0, (0, 0, 0), 0)) (by decide +kernel)) g0_z hm_z
                  replace hm_z := rn_iload_n (am_cur_of (i := (110, 1, .iload_n 3, (0, 0, 0), 0)) (by decide +kernel)) g3_z hm_z
                  replace hm_z := rn_iload (am_cur_of (i := (111, 2, .iload 4, (0, 0, 0), 0)) (by decide +kernel)) g4_z hm_z
                  replace hm_z := rn_callV (M' := am_m161) (o := 164) (ar := [.int 99, .int 0]) (rest := []) (L := lv_args 0 [.ref 164, .int 0, .int 99]) (am_cur_of (i := (113, 3, .invokevirtual 197, (161, 1677, 3), 0)) (by decide +kernel)) rfl rfl rfl rfl hm_z
                  obtain ⟨r647_z, h648_z, q649_z, hm_z⟩ := hm_z
                  obtain ⟨v650_z, rfl⟩ := rn_ret (M := am_m161) rfl (by decide) q649_z
                  have K650 := kp_of (a := 161) (by decide) rfl (as := [.ref 164, .int 0, .int 99]) (ra_Sc (fun _ e => by cases e; rfl) (ra_Sc (ra_Vi) (ra_Sc (ra_Vi) ra_S0))) q649_z
                  have z650_z := zM_t (zM_u (o := 170) (k := 54) (by decide) z638_z) K650.1
                  have e17_650 : rg_v h648_z 164 17 = 3 := (K650.2 17 (by decide)).trans (show rg_v (am_up h636_z 170 54 (.int (rg_v h636_z 164 11))) 164 17 = 3 from e17_638)
                  have e18_650 : rg_v h648_z 164 18 = ct := (K650.2 18 (by decide)).trans (show rg_v (am_up h636_z 170 54 (.int (rg_v h636_z 164 11))) 164 18 = ct from e18_638)
                  have e19_650 : rg_v h648_z 164 19 = cl := (K650.2 19 (by decide)).trans (show rg_v (am_up h636_z 170 54 (.int (rg_v h636_z 164 11))) 164 19 = cl from e19_638)
                  have e20_650 : rg_v h648_z 164 20 = cq := (K650.2 20 (by decide)).trans (show rg_v (am_up h636_z 170 54 (.int (rg_v h636_z 164 11))) 164 20 = cq from e20_638)
                  replace hm_z : rn _ _ _ _ [.int v650_z] _ _ _ := hm_z
                  replace hm_z := rn_if (am_cur_of (i := (116, 3, .ifCond .ne 5, (69, 0, 0), 0)) (by decide +kernel)) hm_z
                  rcases hm_z with ⟨b651_z, hm_z⟩ | ⟨b651_z, hm_z⟩
                  · replace b651_z : ¬ v650_z = (0 : Int32) ∧ ¬ v650_z.toInt = (0 : Int32).toInt := b651_z
                    replace hm_z := rn_aload_n (am_cur_of (i := (121, 1, .aload_n 0, (0, 0, 0), 0)) (by decide +kernel)) g0_z hm_z
                    replace hm_z := rn_getR (x := 170) (am_cur_of (i := (122, 3, .getfield 30, (12, 25, 1409), 0)) (by decide +kernel)) (by decide +kernel) hm_z
                    replace hm_z := rn_iload_n (am_cur_of (i := (125, 1, .iload_n 1, (0, 0, 0), 0)) (by decide +kernel)) g1_z hm_z
                    replace hm_z := rn_iload_n (am_cur_of (i := (126, 1, .iload_n 2, (0, 0, 0), 0)) (by decide +kernel)) g2_z hm_z
                    replace hm_z := rn_iadd (w := 55) (am_cur_of (i := (127, 1, .iadd, (0, 0, 0), 0)) (by decide +kernel)) (by decide) hm_z
                    replace hm_z := rn_aload_n (am_cur_of (i := (128, 1, .aload_n 0, (0, 0, 0), 0)) (by decide +kernel)) g0_z hm_z
                    replace hm_z := rn_getI (v := rg_v h648_z 164 11) (am_cur_of (i := (129, 3, .getfield 188, (12, 11, 1395), 0)) (by decide +kernel)) (by decide +kernel) rfl hm_z
                    replace hm_z := rn_iastore (N := 56) (q := 55) (am_cur_of (i := (132, 1, .iastore, (0, 0, 0), 0)) (by decide +kernel)) (by decide +kernel) rfl hm_z
                    obtain ⟨p652_z, hm_z⟩ := hm_z
                    replace hm_z := rn_iinc (w := 7) (am_cur_of (i := (133, 3, .iinc 2 1, (0, 0, 0), 0)) (by decide +kernel)) g2_z (by decide) hm_z
                    obtain ⟨_, s653_z, s654_z, g2_z, hm_z⟩ := hm_z
                    replace g0_z := s653_z 0 _ (by decide) rfl g0_z
                    replace g1_z := s653_z 1 _ (by decide) rfl g1_z
                    replace g3_z := s653_z 3 _ (by decide) rfl g3_z
                    replace g4_z := s653_z 4 _ (by decide) rfl g4_z
                    clear s653_z s654_z
                    replace hm_z := rn_goto (am_cur_of (i := (136, 3, .goto (-87), (29, 0, 0), 0)) (by decide +kernel)) hm_z
                    replace hm_z := rn_iload_n (am_cur_of (i := (49, 1, .iload_n 2, (0, 0, 0), 0)) (by decide +kernel)) g2_z hm_z
                    replace hm_z := rn_bipush (w := 7) (am_cur_of (i := (50, 2, .bipush 7, (0, 0, 0), 0)) (by decide +kernel)) (by decide) hm_z
                    replace hm_z := rn_cmpT (am_cur_of (i := (52, 3, .if_icmp .ge 87, (79, 0, 0), 0)) (by decide +kernel)) (by decide) hm_z
                    replace hm_z := rn_aload_n (am_cur_of (i := (139, 1, .aload_n 0, (0, 0, 0), 0)) (by decide +kernel)) g0_z hm_z
                    replace hm_z := rn_dup (am_cur_of (i := (140, 1, .dup, (0, 0, 0), 0)) (by decide +kernel)) hm_z
                    replace hm_z := rn_getI (v := 3) (am_cur_of (i := (141, 3, .getfield 201, (12, 17, 1401), 0)) (by decide +kernel)) (by decide +kernel) (show rg_v (am_up h648_z 170 55 (.int (rg_v h648_z 164 11))) 164 17 = 3 from e17_650) hm_z
                    replace hm_z := rn_iconst (w := 1) (am_cur_of (i := (144, 1, .iconst 1, (0, 0, 0), 0)) (by decide +kernel)) (by decide) hm_z
                    replace hm_z := rn_iadd (w := 4) (am_cur_of (i := (145, 1, .iadd, (0, 0, 0), 0)) (by decide +kernel)) (by decide) hm_z
                    replace hm_z := rn_put (am_cur_of (i := (146, 3, .putfield 201, (12, 17, 1401), 0)) (by decide +kernel)) (by decide +kernel) hm_z
                    replace hm_z := rn_iconst (w := 1) (am_cur_of (i := (149, 1, .iconst 1, (0, 0, 0), 0)) (by decide +kernel)) (by decide) hm_z
                    replace hm_z := rn_iret (am_cur_of (i := (150, 1, .ireturn, (0, 0, 0), 0)) (by decide +kernel)) hm_z
                    obtain ⟨e655_z, e656_z⟩ := hm_z
                    rw [e656_z]
                    exact ⟨(zM_u (o := 164) (k := 17) (by decide) (zM_u (o := 170) (k := 55) (by decide) z650_z)), ⟨by rw [show rg_v (am_up (am_up h648_z 170 55 (.int (rg_v h648_z 164 11))) 164 17 (.int 4)) 164 17 = 4 from (show rg_v (am_up (am_up h648_z 170 55 (.int (rg_v h648_z 164 11))) 164 17 (.int 4)) 164 17 = 4 from rfl)]; omega, by rw [show rg_v (am_up (am_up h648_z 170 55 (.int (rg_v h648_z 164 11))) 164 17 (.int 4)) 164 17 = 4 from (show rg_v (am_up (am_up h648_z 170 55 (.int (rg_v h648_z 164 11))) 164 17 (.int 4)) 164 17 = 4 from rfl)]; omega⟩, ⟨by rw [show rg_v (am_up (am_up h648_z 170 55 (.int (rg_v h648_z 164 11))) 164 17 (.int 4)) 164 18 = ct from (show rg_v (am_up (am_up h648_z 170 55 (.int (rg_v h648_z 164 11))) 164 17 (.int 4)) 164 18 = ct from e18_650)]; omega, by rw [show rg_v (am_up (am_up h648_z 170 55 (.int (rg_v h648_z 164 11))) 164 17 (.int 4)) 164 18 = ct from (show rg_v (am_up (am_up h648_z 170 55 (.int (rg_v h648_z 164 11))) 164 17 (.int 4)) 164 18 = ct from e18_650)]; omega⟩, ⟨by rw [show rg_v (am_up (am_up h648_z 170 55 (.int (rg_v h648_z 164 11))) 164 17 (.int 4)) 164 19 = cl from (show rg_v (am_up (am_up h648_z 170 55 (.int (rg_v h648_z 164 11))) 164 17 (.int 4)) 164 19 = cl from e19_650)]; omega, by rw [show rg_v (am_up (am_up h648_z 170 55 (.int (rg_v h648_z 164 11))) 164 17 (.int 4)) 164 19 = cl from (show rg_v (am_up (am_up h648_z 170 55 (.int (rg_v h648_z 164 11))) 164 17 (.int 4)) 164 19 = cl from e19_650)]; omega⟩, ⟨by rw [show rg_v (am_up (am_up h648_z 170 55 (.int (rg_v h648_z 164 11))) 164 17 (.int 4)) 164 20 = cq from (show rg_v (am_up (am_up h648_z 170 55 (.int (rg_v h648_z 164 11))) 164 17 (.int 4)) 164 20 = cq from e20_650)]; omega, by rw [show rg_v (am_up (am_up h648_z 170 55 (.int (rg_v h648_z 164 11))) 164 17 (.int 4)) 164 20 = cq from (show rg_v (am_up (am_up h648_z 170 55 (.int (rg_v h648_z 164 11))) 164 17 (.int 4)) 164 20 = cq from e20_650)]; omega⟩⟩
                  · replace b651_z : v650_z = (0 : Int32) ∧ v650_z.toInt = (0 : Int32).toInt := b651_z
                    replace hm_z := rn_iconst (w := 0) (am_cur_of (i := (119, 1, .iconst 0, (0, 0, 0), 0)) (by decide +kernel)) (by decide) hm_z
                    replace hm_z := rn_iret (am_cur_of (i := (120, 1, .ireturn, (0, 0, 0), 0)) (by decide +kernel)) hm_z
                    obtain ⟨e657_z, e658_z⟩ := hm_z
                    rw [e658_z]
                    exact ⟨z650_z, ⟨by rw [show rg_v h648_z 164 17 = 3 from e17_650]; omega, by rw [show rg_v h648_z 164 17 = 3 from e17_650]; omega⟩, ⟨by rw [show rg_v h648_z 164 18 = ct from e18_650]; omega, by rw [show rg_v h648_z 164 18 = ct from e18_650]; omega⟩, ⟨by rw [show rg_v h648_z 164 19 = cl from e19_650]; omega, by rw [show rg_v h648_z 164 19 = cl from e19_650]; omega⟩, ⟨by rw [show rg_v h648_z 164 20 = cq from e20_650]; omega, by rw [show rg_v h648_z 164 20 = cq from e20_650]; omega⟩⟩
                · replace b639_z : v638_z = (0 : Int32) ∧ v638_z.toInt = (0 : Int32).toInt := b639_z
                  replace hm_z := rn_iconst (w := 0) (am_cur_of (i := (119, 1, .iconst 0, (0, 0, 0), 0)) (by decide +kernel)) (by decide) hm_z
                  replace hm_z := rn_iret (am_cur_of (i := (120, 1, .ireturn, (0, 0, 0), 0)) (by decide +kernel)) hm_z
                  obtain ⟨e659_z, e660_z⟩ := hm_z
                  rw [e660_z]
                  exact ⟨z638_z, ⟨by rw [show rg_v h636_z 164 17 = 3 from e17_638]; omega, by rw [show rg_v h636_z 164 17 = 3 from e17_638]; omega⟩, ⟨by rw [show rg_v h636_z 164 18 = ct from e18_638]; omega, by rw [show rg_v h636_z 164 18 = ct from e18_638]; omega⟩, ⟨by rw [show rg_v h636_z 164 19 = cl from e19_638]; omega, by rw [show rg_v h636_z 164 19 = cl from e19_638]; omega⟩, ⟨by rw [show rg_v h636_z 164 20 = cq from e20_638]; omega, by rw [show rg_v h636_z 164 20 = cq from e20_638]; omega⟩⟩
              · replace b627_z : v626_z = (0 : Int32) ∧ v626_z.toInt = (0 : Int32).toInt := b627_z
                replace hm_z := rn_iconst (w := 0) (am_cur_of (i := (119, 1, .iconst 0, (0, 0, 0), 0)) (by decide +kernel)) (by decide) hm_z
                replace hm_z := rn_iret (am_cur_of (i := (120, 1, .ireturn, (0, 0, 0), 0)) (by decide +kernel)) hm_z
                obtain ⟨e661_z, e662_z⟩ := hm_z
                rw [e662_z]
                exact ⟨z626_z, ⟨by rw [show rg_v h624_z 164 17 = 3 from e17_626]; omega, by rw [show rg_v h624_z 164 17 = 3 from e17_626]; omega⟩, ⟨by rw [show rg_v h624_z 164 18 = ct from e18_626]; omega, by rw [show rg_v h624_z 164 18 = ct from e18_626]; omega⟩, ⟨by rw [show rg_v h624_z 164 19 = cl from e19_626]; omega, by rw [show rg_v h624_z 164 19 = cl from e19_626]; omega⟩, ⟨by rw [show rg_v h624_z 164 20 = cq from e20_626]; omega, by rw [show rg_v h624_z 164 20 = cq from e20_626]; omega⟩⟩
            · replace b615_z : v614_z = (0 : Int32) ∧ v614_z.toInt = (0 : Int32).toInt := b615_z
              replace hm_z := rn_iconst (w := 0) (am_cur_of (i := (119, 1, .iconst 0, (0, 0, 0), 0)) (by decide +kernel)) (by decide) hm_z
              replace hm_z := rn_iret (am_cur_of (i := (120, 1, .ireturn, (0, 0, 0), 0)) (by decide +kernel)) hm_z
              obtain ⟨e663_z, e664_z⟩ := hm_z
              rw [e664_z]
              exact ⟨z614_z, ⟨by rw [show rg_v h612_z 164 17 = 3 from e17_614]; omega, by rw [show rg_v h612_z 164 17 = 3 from e17_614]; omega⟩, ⟨by rw [show rg_v h612_z 164 18 = ct from e18_614]; omega, by rw [show rg_v h612_z 164 18 = ct from e18_614]; omega⟩, ⟨by rw [show rg_v h612_z 164 19 = cl from e19_614]; omega, by rw [show rg_v h612_z 164 19 = cl from e19_614]; omega⟩, ⟨by rw [show rg_v h612_z 164 20 = cq from e20_614]; omega, by rw [show rg_v h612_z 164 20 = cq from e20_614]; omega⟩⟩
          · replace b603_z : v602_z = (0 : Int32) ∧ v602_z.toInt = (0 : Int32).toInt := b603_z
            replace hm_z := rn_iconst (w := 0) (am_cur_of (i := (119, 1, .iconst 0, (0, 0, 0), 0)) (by decide +kernel)) (by decide) hm_z
            replace hm_z := rn_iret (am_cur_of (i := (120, 1, .ireturn, (0, 0, 0), 0)) (by decide +kernel)) hm_z
            obtain ⟨e665_z, e666_z⟩ := hm_z
            rw [e666_z]
            exact ⟨z602_z, ⟨by rw [show rg_v h600_z 164 17 = 3 from e17_602]; omega, by rw [show rg_v h600_z 164 17 = 3 from e17_602]; omega⟩, ⟨by rw [show rg_v h600_z 164 18 = ct from e18_602]; omega, by rw [show rg_v h600_z 164 18 = ct from e18_602]; omega⟩, ⟨by rw [show rg_v h600_z 164 19 = cl from e19_602]; omega, by rw [show rg_v h600_z 164 19 = cl from e19_602]; omega⟩, ⟨by rw [show rg_v h600_z 164 20 = cq from e20_602]; omega, by rw [show rg_v h600_z 164 20 = cq from e20_602]; omega⟩⟩
        · replace b591_z : v590_z = (0 : Int32) ∧ v590_z.toInt = (0 : Int32).toInt := b591_z
          replace hm_z := rn_iconst (w := 0) (am_cur_of (i := (119, 1, .iconst 0, (0, 0, 0), 0)) (by decide +kernel)) (by decide) hm_z
          replace hm_z := rn_iret (am_cur_of (i := (120, 1, .ireturn, (0, 0, 0), 0)) (by decide +kernel)) hm_z
          obtain ⟨e667_z, e668_z⟩ := hm_z
          rw [e668_z]
          exact ⟨z590_z, ⟨by rw [show rg_v h588_z 164 17 = 3 from e17_590]; omega, by rw [show rg_v h588_z 164 17 = 3 from e17_590]; omega⟩, ⟨by rw [show rg_v h588_z 164 18 = ct from e18_590]; omega, by rw [show rg_v h588_z 164 18 = ct from e18_590]; omega⟩, ⟨by rw [show rg_v h588_z 164 19 = cl from e19_590]; omega, by rw [show rg_v h588_z 164 19 = cl from e19_590]; omega⟩, ⟨by rw [show rg_v h588_z 164 20 = cq from e20_590]; omega, by rw [show rg_v h588_z 164 20 = cq from e20_590]; omega⟩⟩
      · replace b579_z : v578_z = (0 : Int32) ∧ v578_z.toInt = (0 : Int32).toInt := b579_z
        replace hm_z := rn_iconst (w := 0) (am_cur_of (i := (119, 1, .iconst 0, (0, 0, 0), 0)) (by decide +kernel)) (by decide) hm_z
        replace hm_z := rn_iret (am_cur_of (i := (120, 1, .ireturn, (0, 0, 0), 0)) (by decide +kernel)) hm_z
        obtain ⟨e669_z, e670_z⟩ := hm_z
        rw [e670_z]
        exact ⟨z578_z, ⟨by rw [show rg_v h576_z 164 17 = 3 from e17_578]; omega, by rw [show rg_v h576_z 164 17 = 3 from e17_578]; omega⟩, ⟨by rw [show rg_v h576_z 164 18 = ct from e18_578]; omega, by rw [show rg_v h576_z 164 18 = ct from e18_578]; omega⟩, ⟨by rw [show rg_v h576_z 164 19 = cl from e19_578]; omega, by rw [show rg_v h576_z 164 19 = cl from e19_578]; omega⟩, ⟨by rw [show rg_v h576_z 164 20 = cq from e20_578]; omega, by rw [show rg_v h576_z 164 20 = cq from e20_578]; omega⟩⟩
    · replace b566_z : v565_z = (0 : Int32) ∧ v565_z.toInt = (0 : Int32).toInt := b566_z
      replace hm_z := rn_iconst (w := 0) (am_cur_of (i := (34, 1, .iconst 0, (0, 0, 0), 0)) (by decide +kernel)) (by decide) hm_z
      replace hm_z := rn_iret (am_cur_of (i := (35, 1, .ireturn, (0, 0, 0), 0)) (by decide +kernel)) hm_z
      obtain ⟨e671_z, e672_z⟩ := hm_z
      rw [e672_z]
      exact ⟨z565_z, ⟨by rw [show rg_v h563_z 164 17 = 3 from e17_565]; omega, by rw [show rg_v h563_z 164 17 = 3 from e17_565]; omega⟩, ⟨by rw [show rg_v h563_z 164 18 = ct from e18_565]; omega, by rw [show rg_v h563_z 164 18 = ct from e18_565]; omega⟩, ⟨by rw [show rg_v h563_z 164 19 = cl from e19_565]; omega, by rw [show rg_v h563_z 164 19 = cl from e19_565]; omega⟩, ⟨by rw [show rg_v h563_z 164 20 = cq from e20_565]; omega, by rw [show rg_v h563_z 164 20 = cq from e20_565]; omega⟩⟩
  · replace hm_z := rn_aload_n (am_cur_of (i := (0, 1, .aload_n 0, (0, 0, 0), 0)) (by decide +kernel)) g0_z hm_z
    replace hm_z := rn_getI (v := 4) (am_cur_of (i := (1, 3, .getfield 201, (12, 17, 1401), 0)) (by decide +kernel)) (by decide +kernel) ecb hm_z
    replace hm_z := rn_iconst (w := 4) (am_cur_of (i := (4, 1, .iconst 4, (0, 0, 0), 0)) (by decide +kernel)) (by decide) hm_z
    replace hm_z := rn_cmpF (am_cur_of (i := (5, 3, .if_icmp .ne 9, (8, 0, 0), 0)) (by decide +kernel)) (by decide) hm_z
    replace hm_z := rn_aload_n (am_cur_of (i := (8, 1, .aload_n 0, (0, 0, 0), 0)) (by decide +kernel)) g0_z hm_z
    replace hm_z := rn_iconst (w := 2) (am_cur_of (i := (9, 1, .iconst 2, (0, 0, 0), 0)) (by decide +kernel)) (by decide) hm_z
    replace hm_z := rn_callV (M' := am_m158) (o := 164) (ar := [.int 2]) (rest := []) (L := lv_args 0 [.ref 164, .int 2]) (am_cur_of (i := (10, 3, .invokevirtual 181, (158, 1665, 3), 0)) (by decide +kernel)) rfl rfl rfl rfl hm_z
    obtain ⟨r673_z, h674_z, q675_z, hm_z⟩ := hm_z
    obtain ⟨v676_z, rfl⟩ := rn_ret (M := am_m158) rfl (by decide) q675_z
    have K676 := kp_of (a := 158) (by decide) rfl (as := [.ref 164, .int 2]) (ra_Sc (fun _ e => by cases e; rfl) (ra_Sc (ra_Vi) ra_S0)) q675_z
    have z676_z := zM_t zM_r K676.1
    have e17_676 : rg_v h674_z 164 17 = 4 := (K676.2 17 (by decide)).trans ecb
    have e18_676 : rg_v h674_z 164 18 = ct := (K676.2 18 (by decide)).trans ect
    have e19_676 : rg_v h674_z 164 19 = cl := (K676.2 19 (by decide)).trans ecl
    have e20_676 : rg_v h674_z 164 20 = cq := (K676.2 20 (by decide)).trans ecq
    replace hm_z : rn _ _ _ _ [.int v676_z] _ _ _ := hm_z
    replace hm_z := rn_iret (am_cur_of (i := (13, 1, .ireturn, (0, 0, 0), 0)) (by decide +kernel)) hm_z
    obtain ⟨e677_z, e678_z⟩ := hm_z
    rw [e678_z]
    exact ⟨z676_z, ⟨by rw [show rg_v h674_z 164 17 = 4 from e17_676]; omega, by rw [show rg_v h674_z 164 17 = 4 from e17_676]; omega⟩, ⟨by rw [show rg_v h674_z 164 18 = ct from e18_676]; omega, by rw [show rg_v h674_z 164 18 = ct from e18_676]; omega⟩, ⟨by rw [show rg_v h674_z 164 19 = cl from e19_676]; omega, by rw [show rg_v h674_z 164 19 = cl from e19_676]; omega⟩, ⟨by rw [show rg_v h674_z 164 20 = cq from e20_676]; omega, by rw [show rg_v h674_z 164 20 = cq from e20_676]; omega⟩⟩
theorem mz_line {n : Nat} {g g' : am_H} {r : Option Value} (C : cr g) (hm_z : rn n am_m157 0 (lv_args 0 [.ref 164]) [] g r g') : zM g g' ∧ cr g' := by
  have z0_z : (0 : Int32).toInt = 0 := by decide
  have z1_z : (1 : Int32).toInt = 1 := by decide
  have z3_z : (3 : Int32).toInt = 3 := by decide
  have z4_z : (4 : Int32).toInt = 4 := by decide
  have z6_z : (6 : Int32).toInt = 6 := by decide
  have z8_z : (8 : Int32).toInt = 8 := by decide
  have z9_z : (9 : Int32).toInt = 9 := by decide
  have z11_z : (11 : Int32).toInt = 11 := by decide
  have g0_z : am_get (lv_args 0 [.ref 164]) 0 = some (.ref 164) := rfl
  obtain ⟨⟨b0_z, b4_z⟩, ⟨t0_z, t8_z⟩, ⟨l0_z, l6_z⟩, ⟨q0_z, q3_z⟩⟩ := C
  obtain ⟨cb, ecb⟩ : ∃ v, rg_v g 164 17 = v := ⟨_, rfl⟩
  rw [ecb] at b0_z b4_z
  obtain ⟨ct, ect⟩ : ∃ v, rg_v g 164 18 = v := ⟨_, rfl⟩
  rw [ect] at t0_z t8_z
  obtain ⟨cl, ecl⟩ : ∃ v, rg_v g 164 19 = v := ⟨_, rfl⟩
  rw [ecl] at l0_z l6_z
  obtain ⟨cq, ecq⟩ : ∃ v, rg_v g 164 20 = v := ⟨_, rfl⟩
  rw [ecq] at q0_z q3_z
  replace hm_z := rn_aload_n (am_cur_of (i := (0, 1, .aload_n 0, (0, 0, 0), 0)) (by decide +kernel)) g0_z hm_z
  replace hm_z := rn_getI (v := rg_v g 164 8) (am_cur_of (i := (1, 3, .getfield 157, (12, 8, 1392), 0)) (by decide +kernel)) (by decide +kernel) rfl hm_z
  replace hm_z := rn_iconst (w := 1) (am_cur_of (i := (4, 1, .iconst 1, (0, 0, 0), 0)) (by decide +kernel)) (by decide) hm_z
  replace hm_z := rn_cmp (am_cur_of (i := (5, 3, .if_icmp .ne 12, (8, 0, 0), 0)) (by decide +kernel)) hm_z
  rcases hm_z with ⟨b679_z, hm_z⟩ | ⟨b679_z, hm_z⟩
  · replace b679_z : ¬ (rg_v g 164 8) = (1 : Int32) ∧ ¬ (rg_v g 164 8).toInt = (1 : Int32).toInt := b679_z
    replace hm_z := rn_aload_n (am_cur_of (i := (17, 1, .aload_n 0, (0, 0, 0), 0)) (by decide +kernel)) g0_z hm_z
    replace hm_z := rn_iconst (w := 1) (am_cur_of (i := (18, 1, .iconst 1, (0, 0, 0), 0)) (by decide +kernel)) (by decide) hm_z
    replace hm_z := rn_callV (M' := am_m158) (o := 164) (ar := [.int 1]) (rest := []) (L := lv_args 0 [.ref 164, .int 1]) (am_cur_of (i := (19, 3, .invokevirtual 181, (158, 1665, 3), 0)) (by decide +kernel)) rfl rfl rfl rfl hm_z
    obtain ⟨r680_z, h681_z, q682_z, hm_z⟩ := hm_z
    obtain ⟨v683_z, rfl⟩ := rn_ret (M := am_m158) rfl (by decide) q682_z
    have K683 := kp_of (a := 158) (by decide) rfl (as := [.ref 164, .int 1]) (ra_Sc (fun _ e => by cases e; rfl) (ra_Sc (ra_Vi) ra_S0)) q682_z
    have z683_z := zM_t zM_r K683.1
    have e17_683 : rg_v h681_z 164 17 = cb := (K683.2 17 (by decide)).trans ecb
    have e18_683 : rg_v h681_z 164 18 = ct := (K683.2 18 (by decide)).trans ect
    have e19_683 : rg_v h681_z 164 19 = cl := (K683.2 19 (by decide)).trans ecl
    have e20_683 : rg_v h681_z 164 20 = cq := (K683.2 20 (by decide)).trans ecq
    replace hm_z : rn _ _ _ _ [.int v683_z] _ _ _ := hm_z
    replace hm_z := rn_iret (am_cur_of (i := (22, 1, .ireturn, (0, 0, 0), 0)) (by decide +kernel)) hm_z
    obtain ⟨e684_z, e685_z⟩ := hm_z
    rw [e685_z]
    exact ⟨z683_z, ⟨by rw [show rg_v h681_z 164 17 = cb from e17_683]; omega, by rw [show rg_v h681_z 164 17 = cb from e17_683]; omega⟩, ⟨by rw [show rg_v h681_z 164 18 = ct from e18_683]; omega, by rw [show rg_v h681_z 164 18 = ct from e18_683]; omega⟩, ⟨by rw [show rg_v h681_z 164 19 = cl from e19_683]; omega, by rw [show rg_v h681_z 164 19 = cl from e19_683]; omega⟩, ⟨by rw [show rg_v h681_z 164 20 = cq from e20_683]; omega, by rw [show rg_v h681_z 164 20 = cq from e20_683]; omega⟩⟩
  · replace b679_z : (rg_v g 164 8) = (1 : Int32) ∧ (rg_v g 164 8).toInt = (1 : Int32).toInt := b679_z
    replace hm_z := rn_aload_n (am_cur_of (i := (8, 1, .aload_n 0, (0, 0, 0), 0)) (by decide +kernel)) g0_z hm_z
    replace hm_z := rn_getI (v := rg_v g 164 9) (am_cur_of (i := (9, 3, .getfield 168, (12, 9, 1393), 0)) (by decide +kernel)) (by decide +kernel) rfl hm_z
    replace hm_z := rn_bipush (w := 8) (am_cur_of (i := (12, 2, .bipush 8, (0, 0, 0), 0)) (by decide +kernel)) (by decide) hm_z
    replace hm_z := rn_cmp (am_cur_of (i := (14, 3, .if_icmp .le 9, (12, 0, 0), 0)) (by decide +kernel)) hm_z
    rcases hm_z with ⟨b686_z, hm_z⟩ | ⟨b686_z, hm_z⟩
    · replace b686_z : (rg_v g 164 9).toInt ≤ (8 : Int32).toInt := b686_z
      replace hm_z := rn_aload_n (am_cur_of (i := (23, 1, .aload_n 0, (0, 0, 0), 0)) (by decide +kernel)) g0_z hm_z
      replace hm_z := rn_getI (v := rg_v g 164 9) (am_cur_of (i := (24, 3, .getfield 168, (12, 9, 1393), 0)) (by decide +kernel)) (by decide +kernel) rfl hm_z
      by_cases v687_z : (rg_v g 164 9) = 0
      · replace hm_z := rn_swI (off := 45) (a := 15) (am_cur_of (i := (27, 45, .tableswitch 178 0 7 #[45, 53, 61, 69, 77, 85, 93, 136], (0, 0, 0), 0)) (by decide +kernel)) (by rw [v687_z]; decide) (by rw [v687_z]; decide) (by decide +kernel) hm_z
        replace hm_z := rn_aload_n (am_cur_of (i := (72, 1, .aload_n 0, (0, 0, 0), 0)) (by decide +kernel)) g0_z hm_z
        replace hm_z := rn_callV (M' := am_m159) (o := 164) (ar := []) (rest := []) (L := lv_args 0 [.ref 164]) (am_cur_of (i := (73, 3, .invokevirtual 252, (159, 1669, 3), 0)) (by decide +kernel)) rfl rfl rfl rfl hm_z
        obtain ⟨r688_z, h689_z, q690_z, hm_z⟩ := hm_z
        obtain ⟨v691_z, rfl⟩ := rn_ret (M := am_m159) rfl (by decide) q690_z
        obtain ⟨Y691, C691⟩ := mz_bed (g := g) ⟨⟨by rw [show rg_v g 164 17 = cb from ecb]; omega, by rw [show rg_v g 164 17 = cb from ecb]; omega⟩, ⟨by rw [show rg_v g 164 18 = ct from ect]; omega, by rw [show rg_v g 164 18 = ct from ect]; omega⟩, ⟨by rw [show rg_v g 164 19 = cl from ecl]; omega, by rw [show rg_v g 164 19 = cl from ecl]; omega⟩, ⟨by rw [show rg_v g 164 20 = cq from ecq]; omega, by rw [show rg_v g 164 20 = cq from ecq]; omega⟩⟩ q690_z
        have z691_z := zM_t zM_r Y691
        obtain ⟨⟨b0_z, b4_z⟩, ⟨t0_z, t8_z⟩, ⟨l0_z, l6_z⟩, ⟨q0_z, q3_z⟩⟩ := C691
        obtain ⟨cb, ecb⟩ : ∃ v, rg_v h689_z 164 17 = v := ⟨_, rfl⟩
        rw [ecb] at b0_z b4_z
        obtain ⟨ct, ect⟩ : ∃ v, rg_v h689_z 164 18 = v := ⟨_, rfl⟩
        rw [ect] at t0_z t8_z
        obtain ⟨cl, ecl⟩ : ∃ v, rg_v h689_z 164 19 = v := ⟨_, rfl⟩
        rw [ecl] at l0_z l6_z
        obtain ⟨cq, ecq⟩ : ∃ v, rg_v h689_z 164 20 = v := ⟨_, rfl⟩
        rw [ecq] at q0_z q3_z
        replace hm_z : rn _ _ _ _ [.int v691_z] _ _ _ := hm_z
        replace hm_z := rn_istore_n (am_cur_of (i := (76, 1, .istore_n 1, (0, 0, 0), 0)) (by decide +kernel)) hm_z
        obtain ⟨_, s692_z, s693_z, g1_z, hm_z⟩ := hm_z
        replace g0_z := s692_z 0 _ (by decide) rfl g0_z
        clear s692_z s693_z
        replace hm_z := rn_goto (am_cur_of (i := (77, 3, .goto 225, (139, 0, 0), 0)) (by decide +kernel)) hm_z
        replace hm_z := rn_iload_n (am_cur_of (i := (302, 1, .iload_n 1, (0, 0, 0), 0)) (by decide +kernel)) g1_z hm_z
        replace hm_z := rn_if (am_cur_of (i := (303, 3, .ifCond .ne 5, (143, 0, 0), 0)) (by decide +kernel)) hm_z
        rcases hm_z with ⟨b694_z, hm_z⟩ | ⟨b694_z, hm_z⟩
        · replace b694_z : ¬ v691_z = (0 : Int32) ∧ ¬ v691_z.toInt = (0 : Int32).toInt := b694_z
          replace hm_z := rn_aload_n (am_cur_of (i := (308, 1, .aload_n 0, (0, 0, 0), 0)) (by decide +kernel)) g0_z hm_z
          replace hm_z := rn_bipush (w := 59) (am_cur_of (i := (309, 2, .bipush 59, (0, 0, 0), 0)) (by decide +kernel)) (by decide) hm_z
          replace hm_z := rn_callV (M' := am_m171) (o := 164) (ar := [.int 59]) (rest := []) (L := lv_args 0 [.ref 164, .int 59]) (am_cur_of (i := (311, 3, .invokevirtual 194, (171, 1715, 3), 0)) (by decide +kernel)) rfl rfl rfl rfl hm_z
          obtain ⟨r695_z, h696_z, q697_z, hm_z⟩ := hm_z
          obtain ⟨v698_z, rfl⟩ := rn_ret (M := am_m171) rfl (by decide) q697_z
          have K698 := kp_of (a := 171) (by decide) rfl (as := [.ref 164, .int 59]) (ra_Sc (fun _ e => by cases e; rfl) (ra_Sc (ra_Vi) ra_S0)) q697_z
          have z698_z := zM_t z691_z K698.1
          have e17_698 : rg_v h696_z 164 17 = cb := (K698.2 17 (by decide)).trans ecb
          have e18_698 : rg_v h696_z 164 18 = ct := (K698.2 18 (by decide)).trans ect
          have e19_698 : rg_v h696_z 164 19 = cl := (K698.2 19 (by decide)).trans ecl
          have e20_698 : rg_v h696_z 164 20 = cq := (K698.2 20 (by decide)).trans ecq
          replace hm_z : rn _ _ _ _ [.int v698_z] _ _ _ := hm_z
          replace hm_z := rn_if (am_cur_of (i := (314, 3, .ifCond .ne 9, (151, 0, 0), 0)) (by decide +kernel)) hm_z
          rcases hm_z with ⟨b699_z, hm_z⟩ | ⟨b699_z, hm_z⟩
          · replace b699_z : ¬ v698_z = (0 : Int32) ∧ ¬ v698_z.toInt = (0 : Int32).toInt := b699_z
            replace hm_z := rn_aload_n (am_cur_of (i := (323, 1, .aload_n 0, (0, 0, 0), 0)) (by decide +kernel)) g0_z hm_z
            replace hm_z := rn_callV (M' := am_m151) (o := 164) (ar := []) (rest := []) (L := lv_args 0 [.ref 164]) (am_cur_of (i := (324, 3, .invokevirtual 191, (151, 1636, 3), 0)) (by decide +kernel)) rfl rfl rfl rfl hm_z
            obtain ⟨r700_z, h701_z, q702_z, hm_z⟩ := hm_z
            have vo := rn_void rfl q702_z
            subst vo
            have K703 := kp_of (a := 151) (by decide) rfl (as := [.ref 164]) (ra_Sc (fun _ e => by cases e; rfl) ra_S0) q702_z
            have z703_z := zM_t z698_z K703.1
            have e17_703 : rg_v h701_z 164 17 = cb := (K703.2 17 (by decide)).trans e17_698
            have e18_703 : rg_v h701_z 164 18 = ct := (K703.2 18 (by decide)).trans e18_698
            have e19_703 : rg_v h701_z 164 19 = cl := (K703.2 19 (by decide)).trans e19_698
            have e20_703 : rg_v h701_z 164 20 = cq := (K703.2 20 (by decide)).trans e20_698
            replace hm_z : rn _ _ _ _ [] _ _ _ := hm_z
            replace hm_z := rn_iconst (w := 1) (am_cur_of (i := (327, 1, .iconst 1, (0, 0, 0), 0)) (by decide +kernel)) (by decide) hm_z
            replace hm_z := rn_iret (am_cur_of (i := (328, 1, .ireturn, (0, 0, 0), 0)) (by decide +kernel)) hm_z
            obtain ⟨e704_z, e705_z⟩ := hm_z
            rw [e705_z]
            exact ⟨z703_z, ⟨by rw [show rg_v h701_z 164 17 = cb from e17_703]; omega, by rw [show rg_v h701_z 164 17 = cb from e17_703]; omega⟩, ⟨by rw [show rg_v h701_z 164 18 = ct from e18_703]; omega, by rw [show rg_v h701_z 164 18 = ct from e18_703]; omega⟩, ⟨by rw [show rg_v h701_z 164 19 = cl from e19_703]; omega, by rw [show rg_v h701_z 164 19 = cl from e19_703]; omega⟩, ⟨by rw [show rg_v h701_z 164 20 = cq from e20_703]; omega, by rw [show rg_v h701_z 164 20 = cq from e20_703]; omega⟩⟩
          · replace b699_z : v698_z = (0 : Int32) ∧ v698_z.toInt = (0 : Int32).toInt := b699_z
            replace hm_z := rn_aload_n (am_cur_of (i := (317, 1, .aload_n 0, (0, 0, 0), 0)) (by decide +kernel)) g0_z hm_z
            replace hm_z := rn_iconst (w := 1) (am_cur_of (i := (318, 1, .iconst 1, (0, 0, 0), 0)) (by decide +kernel)) (by decide) hm_z
            replace hm_z := rn_callV (M' := am_m158) (o := 164) (ar := [.int 1]) (rest := []) (L := lv_args 0 [.ref 164, .int 1]) (am_cur_of (i := (319, 3, .invokevirtual 181, (158, 1665, 3), 0)) (by decide +kernel)) rfl rfl rfl rfl hm_z
            obtain ⟨r706_z, h707_z, q708_z, hm_z⟩ := hm_z
            obtain ⟨v709_z, rfl⟩ := rn_ret (M := am_m158) rfl (by decide) q708_z
            have K709 := kp_of (a := 158) (by decide) rfl (as := [.ref 164, .int 1]) (ra_Sc (fun _ e => by cases e; rfl) (ra_Sc (ra_Vi) ra_S0)) q708_z
            have z709_z := zM_t z698_z K709.1
            have e17_709 : rg_v h707_z 164 17 = cb := (K709.2 17 (by decide)).trans e17_698
            have e18_709 : rg_v h707_z 164 18 = ct := (K709.2 18 (by decide)).trans e18_698
            have e19_709 : rg_v h707_z 164 19 = cl := (K709.2 19 (by decide)).trans e19_698
            have e20_709 : rg_v h707_z 164 20 = cq := (K709.2 20 (by decide)).trans e20_698
            replace hm_z : rn _ _ _ _ [.int v709_z] _ _ _ := hm_z
            replace hm_z := rn_iret (am_cur_of (i := (322, 1, .ireturn, (0, 0, 0), 0)) (by decide +kernel)) hm_z
            obtain ⟨e710_z, e711_z⟩ := hm_z
            rw [e711_z]
            exact ⟨z709_z, ⟨by rw [show rg_v h707_z 164 17 = cb from e17_709]; omega, by rw [show rg_v h707_z 164 17 = cb from e17_709]; omega⟩, ⟨by rw [show rg_v h707_z 164 18 = ct from e18_709]; omega, by rw [show rg_v h707_z 164 18 = ct from e18_709]; omega⟩, ⟨by rw [show rg_v h707_z 164 19 = cl from e19_709]; omega, by rw [show rg_v h707_z 164 19 = cl from e19_709]; omega⟩, ⟨by rw [show rg_v h707_z 164 20 = cq from e20_709]; omega, by rw [show rg_v h707_z 164 20 = cq from e20_709]; omega⟩⟩
        · replace b694_z : v691_z = (0 : Int32) ∧ v691_z.toInt = (0 : Int32).toInt := b694_z
          replace hm_z := rn_iconst (w := 0) (am_cur_of (i := (306, 1, .iconst 0, (0, 0, 0), 0)) (by decide +kernel)) (by decide) hm_z
          replace hm_z := rn_iret (am_cur_of (i := (307, 1, .ireturn, (0, 0, 0), 0)) (by decide +kernel)) hm_z
          obtain ⟨e712_z, e713_z⟩ := hm_z
          rw [e713_z]
          exact ⟨z691_z, ⟨by rw [show rg_v h689_z 164 17 = cb from ecb]; omega, by rw [show rg_v h689_z 164 17 = cb from ecb]; omega⟩, ⟨by rw [show rg_v h689_z 164 18 = ct from ect]; omega, by rw [show rg_v h689_z 164 18 = ct from ect]; omega⟩, ⟨by rw [show rg_v h689_z 164 19 = cl from ecl]; omega, by rw [show rg_v h689_z 164 19 = cl from ecl]; omega⟩, ⟨by rw [show rg_v h689_z 164 20 = cq from ecq]; omega, by rw [show rg_v h689_z 164 20 = cq from ecq]; omega⟩⟩
      by_cases v714_z : (rg_v g 164 9) = 1
      · replace hm_z := rn_swI (off := 53) (a := 19) (am_cur_of (i := (27, 45, .tableswitch 178 0 7 #[45, 53, 61, 69, 77, 85, 93, 136], (0, 0, 0), 0)) (by decide +kernel)) (by rw [v714_z]; decide) (by rw [v714_z]; decide) (by decide +kernel) hm_z
        replace hm_z := rn_aload_n (am_cur_of (i := (80, 1, .aload_n 0, (0, 0, 0), 0)) (by decide +kernel)) g0_z hm_z
        replace hm_z := rn_callV (M' := am_m163) (o := 164) (ar := []) (rest := []) (L := lv_args 0 [.ref 164]) (am_cur_of (i := (81, 3, .invokevirtual 256, (163, 1684, 3), 0)) (by decide +kernel)) rfl rfl rfl rfl hm_z
        obtain ⟨r715_z, h716_z, q717_z, hm_z⟩ := hm_z
        obtain ⟨v718_z, rfl⟩ := rn_ret (M := am_m163) rfl (by decide) q717_z
        obtain ⟨Y718, C718⟩ := mz_blower (g := g) ⟨⟨by rw [show rg_v g 164 17 = cb from ecb]; omega, by rw [show rg_v g 164 17 = cb from ecb]; omega⟩, ⟨by rw [show rg_v g 164 18 = ct from ect]; omega, by rw [show rg_v g 164 18 = ct from ect]; omega⟩, ⟨by rw [show rg_v g 164 19 = cl from ecl]; omega, by rw [show rg_v g 164 19 = cl from ecl]; omega⟩, ⟨by rw [show rg_v g 164 20 = cq from ecq]; omega, by rw [show rg_v g 164 20 = cq from ecq]; omega⟩⟩ q717_z
        have z718_z := zM_t zM_r Y718
        obtain ⟨⟨b0_z, b4_z⟩, ⟨t0_z, t8_z⟩, ⟨l0_z, l6_z⟩, ⟨q0_z, q3_z⟩⟩ := C718
        obtain ⟨cb, ecb⟩ : ∃ v, rg_v h716_z 164 17 = v := ⟨_, rfl⟩
        rw [ecb] at b0_z b4_z
        obtain ⟨ct, ect⟩ : ∃ v, rg_v h716_z 164 18 = v := ⟨_, rfl⟩
        rw [ect] at t0_z t8_z
        obtain ⟨cl, ecl⟩ : ∃ v, rg_v h716_z 164 19 = v := ⟨_, rfl⟩
        rw [ecl] at l0_z l6_z
        obtain ⟨cq, ecq⟩ : ∃ v, rg_v h716_z 164 20 = v := ⟨_, rfl⟩
        rw [ecq] at q0_z q3_z
        replace hm_z : rn _ _ _ _ [.int v718_z] _ _ _ := hm_z
        replace hm_z := rn_istore_n (am_cur_of (i := (84, 1, .istore_n 1, (0, 0, 0), 0)) (by decide +kernel)) hm_z
        obtain ⟨_, s719_z, s720_z, g1_z, hm_z⟩ := hm_z
        replace g0_z := s719_z 0 _ (by decide) rfl g0_z
        clear s719_z s720_z
        replace hm_z := rn_goto (am_cur_of (i := (85, 3, .goto 217, (139, 0, 0), 0)) (by decide +kernel)) hm_z
        replace hm_z := rn_iload_n (am_cur_of (i := (302, 1, .iload_n 1, (0, 0, 0), 0)) (by decide +kernel)) g1_z hm_z
        replace hm_z := rn_if (am_cur_of (i := (303, 3, .ifCond .ne 5, (143, 0, 0), 0)) (by decide +kernel)) hm_z
        rcases hm_z with ⟨b721_z, hm_z⟩ | ⟨b721_z, hm_z⟩
        · replace b721_z : ¬ v718_z = (0 : Int32) ∧ ¬ v718_z.toInt = (0 : Int32).toInt := b721_z
          replace hm_z := rn_aload_n (am_cur_of (i := (308, 1, .aload_n 0, (0, 0, 0), 0)) (by decide +kernel)) g0_z hm_z
          replace hm_z := rn_bipush (w := 59) (am_cur_of (i := (309, 2, .bipush 59, (0, 0, 0), 0)) (by decide +kernel)) (by decide) hm_z
          replace hm_z := rn_callV (M' := am_m171) (o := 164) (ar := [.int 59]) (rest := []) (L := lv_args 0 [.ref 164, .int 59]) (am_cur_of (i := (311, 3, .invokevirtual 194, (171, 1715, 3), 0)) (by decide +kernel)) rfl rfl rfl rfl hm_z
          obtain ⟨r722_z, h723_z, q724_z, hm_z⟩ := hm_z
          obtain ⟨v725_z, rfl⟩ := rn_ret (M := am_m171) rfl (by decide) q724_z
          have K725 := kp_of (a := 171) (by decide) rfl (as := [.ref 164, .int 59]) (ra_Sc (fun _ e => by cases e; rfl) (ra_Sc (ra_Vi) ra_S0)) q724_z
          have z725_z := zM_t z718_z K725.1
          have e17_725 : rg_v h723_z 164 17 = cb := (K725.2 17 (by decide)).trans ecb
          have e18_725 : rg_v h723_z 164 18 = ct := (K725.2 18 (by decide)).trans ect
          have e19_725 : rg_v h723_z 164 19 = cl := (K725.2 19 (by decide)).trans ecl
          have e20_725 : rg_v h723_z 164 20 = cq := (K725.2 20 (by decide)).trans ecq
          replace hm_z : rn _ _ _ _ [.int v725_z] _ _ _ := hm_z
          replace hm_z := rn_if (am_cur_of (i := (314, 3, .ifCond .ne 9, (151, 0, 0), 0)) (by decide +kernel)) hm_z
          rcases hm_z with ⟨b726_z, hm_z⟩ | ⟨b726_z, hm_z⟩
          · replace b726_z : ¬ v725_z = (0 : Int32) ∧ ¬ v725_z.toInt = (0 : Int32).toInt := b726_z
            replace hm_z := rn_aload_n (am_cur_of (i := (323, 1, .aload_n 0, (0, 0, 0), 0)) (by decide +kernel)) g0_z hm_z
            replace hm_z := rn_callV (M' := am_m151) (o := 164) (ar := []) (rest := []) (L := lv_args 0 [.ref 164]) (am_cur_of (i := (324, 3, .invokevirtual 191, (151, 1636, 3), 0)) (by decide +kernel)) rfl rfl rfl rfl hm_z
            obtain ⟨r727_z, h728_z, q729_z, hm_z⟩ := hm_z
            have vo := rn_void rfl q729_z
            subst vo
            have K730 := kp_of (a := 151) (by decide) rfl (as := [.ref 164]) (ra_Sc (fun _ e => by cases e; rfl) ra_S0) q729_z
            have z730_z := zM_t z725_z K730.1
            have e17_730 : rg_v h728_z 164 17 = cb := (K730.2 17 (by decide)).trans e17_725
            have e18_730 : rg_v h728_z 164 18 = ct := (K730.2 18 (by decide)).trans e18_725
            have e19_730 : rg_v h728_z 164 19 = cl := (K730.2 19 (by decide)).trans e19_725
            have e20_730 : rg_v h728_z 164 20 = cq := (K730.2 20 (by decide)).trans e20_725
            replace hm_z : rn _ _ _ _ [] _ _ _ := hm_z
            replace hm_z := rn_iconst (w := 1) (am_cur_of (i := (327, 1, .iconst 1, (0, 0, 0), 0)) (by decide +kernel)) (by decide) hm_z
            replace hm_z := rn_iret (am_cur_of (i := (328, 1, .ireturn, (0, 0, 0), 0)) (by decide +kernel)) hm_z
            obtain ⟨e731_z, e732_z⟩ := hm_z
            rw [e732_z]
            exact ⟨z730_z, ⟨by rw [show rg_v h728_z 164 17 = cb from e17_730]; omega, by rw [show rg_v h728_z 164 17 = cb from e17_730]; omega⟩, ⟨by rw [show rg_v h728_z 164 18 = ct from e18_730]; omega, by rw [show rg_v h728_z 164 18 = ct from e18_730]; omega⟩, ⟨by rw [show rg_v h728_z 164 19 = cl from e19_730]; omega, by rw [show rg_v h728_z 164 19 = cl from e19_730]; omega⟩, ⟨by rw [show rg_v h728_z 164 20 = cq from e20_730]; omega, by rw [show rg_v h728_z 164 20 = cq from e20_730]; omega⟩⟩
          · replace b726_z : v725_z = (0 : Int32) ∧ v725_z.toInt = (0 : Int32).toInt := b726_z
            replace hm_z := rn_aload_n (am_cur_of (i := (317, 1, .aload_n 0, (0, 0, 0), 0)) (by decide +kernel)) g0_z hm_z
            replace hm_z := rn_iconst (w := 1) (am_cur_of (i := (318, 1, .iconst 1, (0, 0, 0), 0)) (by decide +kernel)) (by decide) hm_z
            replace hm_z := rn_callV (M' := am_m158) (o := 164) (ar := [.int 1]) (rest := []) (L := lv_args 0 [.ref 164, .int 1]) (am_cur_of (i := (319, 3, .invokevirtual 181, (158, 1665, 3), 0)) (by decide +kernel)) rfl rfl rfl rfl hm_z
            obtain ⟨r733_z, h734_z, q735_z, hm_z⟩ := hm_z
            obtain ⟨v736_z, rfl⟩ := rn_ret (M := am_m158) rfl (by decide) q735_z
            have K736 := kp_of (a := 158) (by decide) rfl (as := [.ref 164, .int 1]) (ra_Sc (fun _ e => by cases e; rfl) (ra_Sc (ra_Vi) ra_S0)) q735_z
            have z736_z := zM_t z725_z K736.1
            have e17_736 : rg_v h734_z 164 17 = cb := (K736.2 17 (by decide)).trans e17_725
            have e18_736 : rg_v h734_z 164 18 = ct := (K736.2 18 (by decide)).trans e18_725
            have e19_736 : rg_v h734_z 164 19 = cl := (K736.2 19 (by decide)).trans e19_725
            have e20_736 : rg_v h734_z 164 20 = cq := (K736.2 20 (by decide)).trans e20_725
            replace hm_z : rn _ _ _ _ [.int v736_z] _ _ _ := hm_z
            replace hm_z := rn_iret (am_cur_of (i := (322, 1, .ireturn, (0, 0, 0), 0)) (by decide +kernel)) hm_z
            obtain ⟨e737_z, e738_z⟩ := hm_z
            rw [e738_z]
            exact ⟨z736_z, ⟨by rw [show rg_v h734_z 164 17 = cb from e17_736]; omega, by rw [show rg_v h734_z 164 17 = cb from e17_736]; omega⟩, ⟨by rw [show rg_v h734_z 164 18 = ct from e18_736]; omega, by rw [show rg_v h734_z 164 18 = ct from e18_736]; omega⟩, ⟨by rw [show rg_v h734_z 164 19 = cl from e19_736]; omega, by rw [show rg_v h734_z 164 19 = cl from e19_736]; omega⟩, ⟨by rw [show rg_v h734_z 164 20 = cq from e20_736]; omega, by rw [show rg_v h734_z 164 20 = cq from e20_736]; omega⟩⟩
        · replace b721_z : v718_z = (0 : Int32) ∧ v718_z.toInt = (0 : Int32).toInt := b721_z
          replace hm_z := rn_iconst (w := 0) (am_cur_of (i := (306, 1, .iconst 0, (0, 0, 0), 0)) (by decide +kernel)) (by decide) hm_z
          replace hm_z := rn_iret (am_cur_of (i := (307, 1, .ireturn, (0, 0, 0), 0)) (by decide +kernel)) hm_z
          obtain ⟨e739_z, e740_z⟩ := hm_z
          rw [e740_z]
          exact ⟨z718_z, ⟨by rw [show rg_v h716_z 164 17 = cb from ecb]; omega, by rw [show rg_v h716_z 164 17 = cb from ecb]; omega⟩, ⟨by rw [show rg_v h716_z 164 18 = ct from ect]; omega, by rw [show rg_v h716_z 164 18 = ct from ect]; omega⟩, ⟨by rw [show rg_v h716_z 164 19 = cl from ecl]; omega, by rw [show rg_v h716_z 164 19 = cl from ecl]; omega⟩, ⟨by rw [show rg_v h716_z 164 20 = cq from ecq]; omega, by rw [show rg_v h716_z 164 20 = cq from ecq]; omega⟩⟩
      by_cases v741_z : (rg_v g 164 9) = 2
      · replace hm_z := rn_swI (off := 61) (a := 23) (am_cur_of (i := (27, 45, .tableswitch 178 0 7 #[45, 53, 61, 69, 77, 85, 93, 136], (0, 0, 0), 0)) (by decide +kernel)) (by rw [v741_z]; decide) (by rw [v741_z]; decide) (by decide +kernel) hm_z
        replace hm_z := rn_aload_n (am_cur_of (i := (88, 1, .aload_n 0, (0, 0, 0), 0)) (by decide +kernel)) g0_z hm_z
        replace hm_z := rn_callV (M' := am_m166) (o := 164) (ar := []) (rest := []) (L := lv_args 0 [.ref 164]) (am_cur_of (i := (89, 3, .invokevirtual 259, (166, 1695, 3), 0)) (by decide +kernel)) rfl rfl rfl rfl hm_z
        obtain ⟨r742_z, h743_z, q744_z, hm_z⟩ := hm_z
        obtain ⟨v745_z, rfl⟩ := rn_ret (M := am_m166) rfl (by decide) q744_z
        obtain ⟨Y745, C745⟩ := mz_turn (g := g) ⟨⟨by rw [show rg_v g 164 17 = cb from ecb]; omega, by rw [show rg_v g 164 17 = cb from ecb]; omega⟩, ⟨by rw [show rg_v g 164 18 = ct from ect]; omega, by rw [show rg_v g 164 18 = ct from ect]; omega⟩, ⟨by rw [show rg_v g 164 19 = cl from ecl]; omega, by rw [show rg_v g 164 19 = cl from ecl]; omega⟩, ⟨by rw [show rg_v g 164 20 = cq from ecq]; omega, by rw [show rg_v g 164 20 = cq from ecq]; omega⟩⟩ q744_z
        have z745_z := zM_t zM_r Y745
        obtain ⟨⟨b0_z, b4_z⟩, ⟨t0_z, t8_z⟩, ⟨l0_z, l6_z⟩, ⟨q0_z, q3_z⟩⟩ := C745
        obtain ⟨cb, ecb⟩ : ∃ v, rg_v h743_z 164 17 = v := ⟨_, rfl⟩
        rw [ecb] at b0_z b4_z
        obtain ⟨ct, ect⟩ : ∃ v, rg_v h743_z 164 18 = v := ⟨_, rfl⟩
        rw [ect] at t0_z t8_z
        obtain ⟨cl, ecl⟩ : ∃ v, rg_v h743_z 164 19 = v := ⟨_, rfl⟩
        rw [ecl] at l0_z l6_z
        obtain ⟨cq, ecq⟩ : ∃ v, rg_v h743_z 164 20 = v := ⟨_, rfl⟩
        rw [ecq] at q0_z q3_z
        replace hm_z : rn _ _ _ _ [.int v745_z] _ _ _ := hm_z
        replace hm_z := rn_istore_n (am_cur_of (i := (92, 1, .istore_n 1, (0, 0, 0), 0)) (by decide +kernel)) hm_z
        obtain ⟨_, s746_z, s747_z, g1_z, hm_z⟩ := hm_z
        replace g0_z := s746_z 0 _ (by decide) rfl g0_z
        clear s746_z s747_z
        replace hm_z := rn_goto (am_cur_of (i := (93, 3, .goto 209, (139, 0, 0), 0)) (by decide +kernel)) hm_z
        replace hm_z := rn_iload_n (am_cur_of (i := (302, 1, .iload_n 1, (0, 0, 0), 0)) (by decide +kernel)) g1_z hm_z
        replace hm_z := rn_if (am_cur_of (i := (303, 3, .ifCond .ne 5, (143, 0, 0), 0)) (by decide +kernel)) hm_z
        rcases hm_z with ⟨b748_z, hm_z⟩ | ⟨b748_z, hm_z⟩
        · replace b748_z : ¬ v745_z = (0 : Int32) ∧ ¬ v745_z.toInt = (0 : Int32).toInt := b748_z
          replace hm_z := rn_aload_n (am_cur_of (i := (308, 1, .aload_n 0, (0, 0, 0), 0)) (by decide +kernel)) g0_z hm_z
          replace hm_z := rn_bipush (w := 59) (am_cur_of (i := (309, 2, .bipush 59, (0, 0, 0), 0)) (by decide +kernel)) (by decide) hm_z
          replace hm_z := rn_callV (M' := am_m171) (o := 164) (ar := [.int 59]) (rest := []) (L := lv_args 0 [.ref 164, .int 59]) (am_cur_of (i := (311, 3, .invokevirtual 194, (171, 1715, 3), 0)) (by decide +kernel)) rfl rfl rfl rfl hm_z
          obtain ⟨r749_z, h750_z, q751_z, hm_z⟩ := hm_z
          obtain ⟨v752_z, rfl⟩ := rn_ret (M := am_m171) rfl (by decide) q751_z
          have K752 := kp_of (a := 171) (by decide) rfl (as := [.ref 164, .int 59]) (ra_Sc (fun _ e => by cases e; rfl) (ra_Sc (ra_Vi) ra_S0)) q751_z
          have z752_z := zM_t z745_z K752.1
          have e17_752 : rg_v h750_z 164 17 = cb := (K752.2 17 (by decide)).trans ecb
          have e18_752 : rg_v h750_z 164 18 = ct := (K752.2 18 (by decide)).trans ect
          have e19_752 : rg_v h750_z 164 19 = cl := (K752.2 19 (by decide)).trans ecl
          have e20_752 : rg_v h750_z 164 20 = cq := (K752.2 20 (by decide)).trans ecq
          replace hm_z : rn _ _ _ _ [.int v752_z] _ _ _ := hm_z
          replace hm_z := rn_if (am_cur_of (i := (314, 3, .ifCond .ne 9, (151, 0, 0), 0)) (by decide +kernel)) hm_z
          rcases hm_z with ⟨b753_z, hm_z⟩ | ⟨b753_z, hm_z⟩
          · replace b753_z : ¬ v752_z = (0 : Int32) ∧ ¬ v752_z.toInt = (0 : Int32).toInt := b753_z
            replace hm_z := rn_aload_n (am_cur_of (i := (323, 1, .aload_n 0, (0, 0, 0), 0)) (by decide +kernel)) g0_z hm_z
            replace hm_z := rn_callV (M' := am_m151) (o := 164) (ar := []) (rest := []) (L := lv_args 0 [.ref 164]) (am_cur_of (i := (324, 3, .invokevirtual 191, (151, 1636, 3), 0)) (by decide +kernel)) rfl rfl rfl rfl hm_z
            obtain ⟨r754_z, h755_z, q756_z, hm_z⟩ := hm_z
            have vo := rn_void rfl q756_z
            subst vo
            have K757 := kp_of (a := 151) (by decide) rfl (as := [.ref 164]) (ra_Sc (fun _ e => by cases e; rfl) ra_S0) q756_z
            have z757_z := zM_t z752_z K757.1
            have e17_757 : rg_v h755_z 164 17 = cb := (K757.2 17 (by decide)).trans e17_752
            have e18_757 : rg_v h755_z 164 18 = ct := (K757.2 18 (by decide)).trans e18_752
            have e19_757 : rg_v h755_z 164 19 = cl := (K757.2 19 (by decide)).trans e19_752
            have e20_757 : rg_v h755_z 164 20 = cq := (K757.2 20 (by decide)).trans e20_752
            replace hm_z : rn _ _ _ _ [] _ _ _ := hm_z
            replace hm_z := rn_iconst (w := 1) (am_cur_of (i := (327, 1, .iconst 1, (0, 0, 0), 0)) (by decide +kernel)) (by decide) hm_z
            replace hm_z := rn_iret (am_cur_of (i := (328, 1, .ireturn, (0, 0, 0), 0)) (by decide +kernel)) hm_z
            obtain ⟨e758_z, e759_z⟩ := hm_z
            rw [e759_z]
            exact ⟨z757_z, ⟨by rw [show rg_v h755_z 164 17 = cb from e17_757]; omega, by rw [show rg_v h755_z 164 17 = cb from e17_757]; omega⟩, ⟨by rw [show rg_v h755_z 164 18 = ct from e18_757]; omega, by rw [show rg_v h755_z 164 18 = ct from e18_757]; omega⟩, ⟨by rw [show rg_v h755_z 164 19 = cl from e19_757]; omega, by rw [show rg_v h755_z 164 19 = cl from e19_757]; omega⟩, ⟨by rw [show rg_v h755_z 164 20 = cq from e20_757]; omega, by rw [show rg_v h755_z 164 20 = cq from e20_757]; omega⟩⟩
          · replace b753_z : v752_z = (0 : Int32) ∧ v752_z.toInt = (0 : Int32).toInt := b753_z
            replace hm_z := rn_aload_n (am_cur_of (i := (317, 1, .aload_n 0, (0, 0, 0), 0)) (by decide +kernel)) g0_z hm_z
            replace hm_z := rn_iconst (w := 1) (am_cur_of (i := (318, 1, .iconst 1, (0, 0, 0), 0)) (by decide +kernel)) (by decide) hm_z
            replace hm_z := rn_callV (M' := am_m158) (o := 164) (ar := [.int 1]) (rest := []) (L := lv_args 0 [.ref 164, .int 1]) (am_cur_of (i := (319, 3, .invokevirtual 181, (158, 1665, 3), 0)) (by decide +kernel)) rfl rfl rfl rfl hm_z
            obtain ⟨r760_z, h761_z, q762_z, hm_z⟩ := hm_z
            obtain ⟨v763_z, rfl⟩ := rn_ret (M := am_m158) rfl (by decide) q762_z
            have K763 := kp_of (a := 158) (by decide) rfl (as := [.ref 164, .int 1]) (ra_Sc (fun _ e => by cases e; rfl) (ra_Sc (ra_Vi) ra_S0)) q762_z
            have z763_z := zM_t z752_z K763.1
            have e17_763 : rg_v h761_z 164 17 = cb := (K763.2 17 (by decide)).trans e17_752
            have e18_763 : rg_v h761_z 164 18 = ct := (K763.2 18 (by decide)).trans e18_752
            have e19_763 : rg_v h761_z 164 19 = cl := (K763.2 19 (by decide)).trans e19_752
            have e20_763 : rg_v h761_z 164 20 = cq := (K763.2 20 (by decide)).trans e20_752
            replace hm_z : rn _ _ _ _ [.int v763_z] _ _ _ := hm_z
            replace hm_z := rn_iret (am_cur_of (i := (322, 1, .ireturn, (0, 0, 0), 0)) (by decide +kernel)) hm_z
            obtain ⟨e764_z, e765_z⟩ := hm_z
            rw [e765_z]
            exact ⟨z763_z, ⟨by rw [show rg_v h761_z 164 17 = cb from e17_763]; omega, by rw [show rg_v h761_z 164 17 = cb from e17_763]; omega⟩, ⟨by rw [show rg_v h761_z 164 18 = ct from e18_763]; omega, by rw [show rg_v h761_z 164 18 = ct from e18_763]; omega⟩, ⟨by rw [show rg_v h761_z 164 19 = cl from e19_763]; omega, by rw [show rg_v h761_z 164 19 = cl from e19_763]; omega⟩, ⟨by rw [show rg_v h761_z 164 20 = cq from e20_763]; omega, by rw [show rg_v h761_z 164 20 = cq from e20_763]; omega⟩⟩
        · replace b748_z : v745_z = (0 : Int32) ∧ v745_z.toInt = (0 : Int32).toInt := b748_z
          replace hm_z := rn_iconst (w := 0) (am_cur_of (i := (306, 1, .iconst 0, (0, 0, 0), 0)) (by decide +kernel)) (by decide) hm_z
          replace hm_z := rn_iret (am_cur_of (i := (307, 1, .ireturn, (0, 0, 0), 0)) (by decide +kernel)) hm_z
          obtain ⟨e766_z, e767_z⟩ := hm_z
          rw [e767_z]
          exact ⟨z745_z, ⟨by rw [show rg_v h743_z 164 17 = cb from ecb]; omega, by rw [show rg_v h743_z 164 17 = cb from ecb]; omega⟩, ⟨by rw [show rg_v h743_z 164 18 = ct from ect]; omega, by rw [show rg_v h743_z 164 18 = ct from ect]; omega⟩, ⟨by rw [show rg_v h743_z 164 19 = cl from ecl]; omega, by rw [show rg_v h743_z 164 19 = cl from ecl]; omega⟩, ⟨by rw [show rg_v h743_z 164 20 = cq from ecq]; omega, by rw [show rg_v h743_z 164 20 = cq from ecq]; omega⟩⟩
      by_cases v768_z : (rg_v g 164 9) = 3
      · replace hm_z := rn_swI (off := 69) (a := 27) (am_cur_of (i := (27, 45, .tableswitch 178 0 7 #[45, 53, 61, 69, 77, 85, 93, 136], (0, 0, 0), 0)) (by decide +kernel)) (by rw [v768_z]; decide) (by rw [v768_z]; decide) (by decide +kernel) hm_z
        replace hm_z := rn_aload_n (am_cur_of (i := (96, 1, .aload_n 0, (0, 0, 0), 0)) (by decide +kernel)) g0_z hm_z
        replace hm_z := rn_callV (M' := am_m167) (o := 164) (ar := []) (rest := []) (L := lv_args 0 [.ref 164]) (am_cur_of (i := (97, 3, .invokevirtual 262, (167, 1699, 3), 0)) (by decide +kernel)) rfl rfl rfl rfl hm_z
        obtain ⟨r769_z, h770_z, q771_z, hm_z⟩ := hm_z
        obtain ⟨v772_z, rfl⟩ := rn_ret (M := am_m167) rfl (by decide) q771_z
        obtain ⟨Y772, C772⟩ := mz_pump (g := g) ⟨⟨by rw [show rg_v g 164 17 = cb from ecb]; omega, by rw [show rg_v g 164 17 = cb from ecb]; omega⟩, ⟨by rw [show rg_v g 164 18 = ct from ect]; omega, by rw [show rg_v g 164 18 = ct from ect]; omega⟩, ⟨by rw [show rg_v g 164 19 = cl from ecl]; omega, by rw [show rg_v g 164 19 = cl from ecl]; omega⟩, ⟨by rw [show rg_v g 164 20 = cq from ecq]; omega, by rw [show rg_v g 164 20 = cq from ecq]; omega⟩⟩ q771_z
        have z772_z := zM_t zM_r Y772
        obtain ⟨⟨b0_z, b4_z⟩, ⟨t0_z, t8_z⟩, ⟨l0_z, l6_z⟩, ⟨q0_z, q3_z⟩⟩ := C772
        obtain ⟨cb, ecb⟩ : ∃ v, rg_v h770_z 164 17 = v := ⟨_, rfl⟩
        rw [ecb] at b0_z b4_z
        obtain ⟨ct, ect⟩ : ∃ v, rg_v h770_z 164 18 = v := ⟨_, rfl⟩
        rw [ect] at t0_z t8_z
        obtain ⟨cl, ecl⟩ : ∃ v, rg_v h770_z 164 19 = v := ⟨_, rfl⟩
        rw [ecl] at l0_z l6_z
        obtain ⟨cq, ecq⟩ : ∃ v, rg_v h770_z 164 20 = v := ⟨_, rfl⟩
        rw [ecq] at q0_z q3_z
        replace hm_z : rn _ _ _ _ [.int v772_z] _ _ _ := hm_z
        replace hm_z := rn_istore_n (am_cur_of (i := (100, 1, .istore_n 1, (0, 0, 0), 0)) (by decide +kernel)) hm_z
        obtain ⟨_, s773_z, s774_z, g1_z, hm_z⟩ := hm_z
        replace g0_z := s773_z 0 _ (by decide) rfl g0_z
        clear s773_z s774_z
        replace hm_z := rn_goto (am_cur_of (i := (101, 3, .goto 201, (139, 0, 0), 0)) (by decide +kernel)) hm_z
        replace hm_z := rn_iload_n (am_cur_of (i := (302, 1, .iload_n 1, (0, 0, 0), 0)) (by decide +kernel)) g1_z hm_z
        replace hm_z := rn_if (am_cur_of (i := (303, 3, .ifCond .ne 5, (143, 0, 0), 0)) (by decide +kernel)) hm_z
        rcases hm_z with ⟨b775_z, hm_z⟩ | ⟨b775_z, hm_z⟩
        · replace b775_z : ¬ v772_z = (0 : Int32) ∧ ¬ v772_z.toInt = (0 : Int32).toInt := b775_z
          replace hm_z := rn_aload_n (am_cur_of (i := (308, 1, .aload_n 0, (0, 0, 0), 0)) (by decide +kernel)) g0_z hm_z
          replace hm_z := rn_bipush (w := 59) (am_cur_of (i := (309, 2, .bipush 59, (0, 0, 0), 0)) (by decide +kernel)) (by decide) hm_z
          replace hm_z := rn_callV (M' := am_m171) (o := 164) (ar := [.int 59]) (rest := []) (L := lv_args 0 [.ref 164, .int 59]) (am_cur_of (i := (311, 3, .invokevirtual 194, (171, 1715, 3), 0)) (by decide +kernel)) rfl rfl rfl rfl hm_z
          obtain ⟨r776_z, h777_z, q778_z, hm_z⟩ := hm_z
          obtain ⟨v779_z, rfl⟩ := rn_ret (M := am_m171) rfl (by decide) q778_z
          have K779 := kp_of (a := 171) (by decide) rfl (as := [.ref 164, .int 59]) (ra_Sc (fun _ e => by cases e; rfl) (ra_Sc (ra_Vi) ra_S0)) q778_z
          have z779_z := zM_t z772_z K779.1
          have e17_779 : rg_v h777_z 164 17 = cb := (K779.2 17 (by decide)).trans ecb
          have e18_779 : rg_v h777_z 164 18 = ct := (K779.2 18 (by decide)).trans ect
          have e19_779 : rg_v h777_z 164 19 = cl := (K779.2 19 (by decide)).trans ecl
          have e20_779 : rg_v h777_z 164 20 = cq := (K779.2 20 (by decide)).trans ecq
          replace hm_z : rn _ _ _ _ [.int v779_z] _ _ _ := hm_z
          replace hm_z := rn_if (am_cur_of (i := (314, 3, .ifCond .ne 9, (151, 0, 0), 0)) (by decide +kernel)) hm_z
          rcases hm_z with ⟨b780_z, hm_z⟩ | ⟨b780_z, hm_z⟩
          · replace b780_z : ¬ v779_z = (0 : Int32) ∧ ¬ v779_z.toInt = (0 : Int32).toInt := b780_z
            replace hm_z := rn_aload_n (am_cur_of (i := (323, 1, .aload_n 0, (0, 0, 0), 0)) (by decide +kernel)) g0_z hm_z
            replace hm_z := rn_callV (M' := am_m151) (o := 164) (ar := []) (rest := []) (L := lv_args 0 [.ref 164]) (am_cur_of (i := (324, 3, .invokevirtual 191, (151, 1636, 3), 0)) (by decide +kernel)) rfl rfl rfl rfl hm_z
            obtain ⟨r781_z, h782_z, q783_z, hm_z⟩ := hm_z
            have vo := rn_void rfl q783_z
            subst vo
            have K784 := kp_of (a := 151) (by decide) rfl (as := [.ref 164]) (ra_Sc (fun _ e => by cases e; rfl) ra_S0) q783_z
            have z784_z := zM_t z779_z K784.1
            have e17_784 : rg_v h782_z 164 17 = cb := (K784.2 17 (by decide)).trans e17_779
            have e18_784 : rg_v h782_z 164 18 = ct := (K784.2 18 (by decide)).trans e18_779
            have e19_784 : rg_v h782_z 164 19 = cl := (K784.2 19 (by decide)).trans e19_779
            have e20_784 : rg_v h782_z 164 20 = cq := (K784.2 20 (by decide)).trans e20_779
            replace hm_z : rn _ _ _ _ [] _ _ _ := hm_z
            replace hm_z := rn_iconst (w := 1) (am_cur_of (i := (327, 1, .iconst 1, (0, 0, 0), 0)) (by decide +kernel)) (by decide) hm_z
            replace hm_z := rn_iret (am_cur_of (i := (328, 1, .ireturn, (0, 0, 0), 0)) (by decide +kernel)) hm_z
            obtain ⟨e785_z, e786_z⟩ := hm_z
            rw [e786_z]
            exact ⟨z784_z, ⟨by rw [show rg_v h782_z 164 17 = cb from e17_784]; omega, by rw [show rg_v h782_z 164 17 = cb from e17_784]; omega⟩, ⟨by rw [show rg_v h782_z 164 18 = ct from e18_784]; omega, by rw [show rg_v h782_z 164 18 = ct from e18_784]; omega⟩, ⟨by rw [show rg_v h782_z 164 19 = cl from e19_784]; omega, by rw [show rg_v h782_z 164 19 = cl from e19_784]; omega⟩, ⟨by rw [show rg_v h782_z 164 20 = cq from e20_784]; omega, by rw [show rg_v h782_z 164 20 = cq from e20_784]; omega⟩⟩
          · replace b780_z : v779_z = (0 : Int32) ∧ v779_z.toInt = (0 : Int32).toInt := b780_z
            replace hm_z := rn_aload_n (am_cur_of (i := (317, 1, .aload_n 0, (0, 0, 0), 0)) (by decide +kernel)) g0_z hm_z
            replace hm_z := rn_iconst (w := 1) (am_cur_of (i := (318, 1, .iconst 1, (0, 0, 0), 0)) (by decide +kernel)) (by decide) hm_z
            replace hm_z := rn_callV (M' := am_m158) (o := 164) (ar := [.int 1]) (rest := []) (L := lv_args 0 [.ref 164, .int 1]) (am_cur_of (i := (319, 3, .invokevirtual 181, (158, 1665, 3), 0)) (by decide +kernel)) rfl rfl rfl rfl hm_z
            obtain ⟨r787_z, h788_z, q789_z, hm_z⟩ := hm_z
            obtain ⟨v790_z, rfl⟩ := rn_ret (M := am_m158) rfl (by decide) q789_z
            have K790 := kp_of (a := 158) (by decide) rfl (as := [.ref 164, .int 1]) (ra_Sc (fun _ e => by cases e; rfl) (ra_Sc (ra_Vi) ra_S0)) q789_z
            have z790_z := zM_t z779_z K790.1
            have e17_790 : rg_v h788_z 164 17 = cb := (K790.2 17 (by decide)).trans e17_779
            have e18_790 : rg_v h788_z 164 18 = ct := (K790.2 18 (by decide)).trans e18_779
            have e19_790 : rg_v h788_z 164 19 = cl := (K790.2 19 (by decide)).trans e19_779
            have e20_790 : rg_v h788_z 164 20 = cq := (K790.2 20 (by decide)).trans e20_779
            replace hm_z : rn _ _ _ _ [.int v790_z] _ _ _ := hm_z
            replace hm_z := rn_iret (am_cur_of (i := (322, 1, .ireturn, (0, 0, 0), 0)) (by decide +kernel)) hm_z
            obtain ⟨e791_z, e792_z⟩ := hm_z
            rw [e792_z]
            exact ⟨z790_z, ⟨by rw [show rg_v h788_z 164 17 = cb from e17_790]; omega, by rw [show rg_v h788_z 164 17 = cb from e17_790]; omega⟩, ⟨by rw [show rg_v h788_z 164 18 = ct from e18_790]; omega, by rw [show rg_v h788_z 164 18 = ct from e18_790]; omega⟩, ⟨by rw [show rg_v h788_z 164 19 = cl from e19_790]; omega, by rw [show rg_v h788_z 164 19 = cl from e19_790]; omega⟩, ⟨by rw [show rg_v h788_z 164 20 = cq from e20_790]; omega, by rw [show rg_v h788_z 164 20 = cq from e20_790]; omega⟩⟩
        · replace b775_z : v772_z = (0 : Int32) ∧ v772_z.toInt = (0 : Int32).toInt := b775_z
          replace hm_z := rn_iconst (w := 0) (am_cur_of (i := (306, 1, .iconst 0, (0, 0, 0), 0)) (by decide +kernel)) (by decide) hm_z
          replace hm_z := rn_iret (am_cur_of (i := (307, 1, .ireturn, (0, 0, 0), 0)) (by decide +kernel)) hm_z
          obtain ⟨e793_z, e794_z⟩ := hm_z
          rw [e794_z]
          exact ⟨z772_z, ⟨by rw [show rg_v h770_z 164 17 = cb from ecb]; omega, by rw [show rg_v h770_z 164 17 = cb from ecb]; omega⟩, ⟨by rw [show rg_v h770_z 164 18 = ct from ect]; omega, by rw [show rg_v h770_z 164 18 = ct from ect]; omega⟩, ⟨by rw [show rg_v h770_z 164 19 = cl from ecl]; omega, by rw [show rg_v h770_z 164 19 = cl from ecl]; omega⟩, ⟨by rw [show rg_v h770_z 164 20 = cq from ecq]; omega, by rw [show rg_v h770_z 164 20 = cq from ecq]; omega⟩⟩
      by_cases v795_z : (rg_v g 164 9) = 4
      · replace hm_z := rn_swI (off := 77) (a := 31) (am_cur_of (i := (27, 45, .tableswitch 178 0 7 #[45, 53, 61, 69, 77, 85, 93, 136], (0, 0, 0), 0)) (by decide +kernel)) (by rw [v795_z]; decide) (by rw [v795_z]; decide) (by decide +kernel) hm_z
        replace hm_z := rn_aload_n (am_cur_of (i := (104, 1, .aload_n 0, (0, 0, 0), 0)) (by decide +kernel)) g0_z hm_z
        replace hm_z := rn_callV (M' := am_m168) (o := 164) (ar := []) (rest := []) (L := lv_args 0 [.ref 164]) (am_cur_of (i := (105, 3, .invokevirtual 265, (168, 1703, 3), 0)) (by decide +kernel)) rfl rfl rfl rfl hm_z
        obtain ⟨r796_z, h797_z, q798_z, hm_z⟩ := hm_z
        obtain ⟨v799_z, rfl⟩ := rn_ret (M := am_m168) rfl (by decide) q798_z
        obtain ⟨Y799, C799⟩ := mz_leak (g := g) ⟨⟨by rw [show rg_v g 164 17 = cb from ecb]; omega, by rw [show rg_v g 164 17 = cb from ecb]; omega⟩, ⟨by rw [show rg_v g 164 18 = ct from ect]; omega, by rw [show rg_v g 164 18 = ct from ect]; omega⟩, ⟨by rw [show rg_v g 164 19 = cl from ecl]; omega, by rw [show rg_v g 164 19 = cl from ecl]; omega⟩, ⟨by rw [show rg_v g 164 20 = cq from ecq]; omega, by rw [show rg_v g 164 20 = cq from ecq]; omega⟩⟩ q798_z
        have z799_z := zM_t zM_r Y799
        obtain ⟨⟨b0_z, b4_z⟩, ⟨t0_z, t8_z⟩, ⟨l0_z, l6_z⟩, ⟨q0_z, q3_z⟩⟩ := C799
        obtain ⟨cb, ecb⟩ : ∃ v, rg_v h797_z 164 17 = v := ⟨_, rfl⟩
        rw [ecb] at b0_z b4_z
        obtain ⟨ct, ect⟩ : ∃ v, rg_v h797_z 164 18 = v := ⟨_, rfl⟩
        rw [ect] at t0_z t8_z
        obtain ⟨cl, ecl⟩ : ∃ v, rg_v h797_z 164 19 = v := ⟨_, rfl⟩
        rw [ecl] at l0_z l6_z
        obtain ⟨cq, ecq⟩ : ∃ v, rg_v h797_z 164 20 = v := ⟨_, rfl⟩
        rw [ecq] at q0_z q3_z
        replace hm_z : rn _ _ _ _ [.int v799_z] _ _ _ := hm_z
        replace hm_z := rn_istore_n (am_cur_of (i := (108, 1, .istore_n 1, (0, 0, 0), 0)) (by decide +kernel)) hm_z
        obtain ⟨_, s800_z, s801_z, g1_z, hm_z⟩ := hm_z
        replace g0_z := s800_z 0 _ (by decide) rfl g0_z
        clear s800_z s801_z
        replace hm_z := rn_goto (am_cur_of (i := (109, 3, .goto 193, (139, 0, 0), 0)) (by decide +kernel)) hm_z
        replace hm_z := rn_iload_n (am_cur_of (i := (302, 1, .iload_n 1, (0, 0, 0), 0)) (by decide +kernel)) g1_z hm_z
        replace hm_z := rn_if (am_cur_of (i := (303, 3, .ifCond .ne 5, (143, 0, 0), 0)) (by decide +kernel)) hm_z
        rcases hm_z with ⟨b802_z, hm_z⟩ | ⟨b802_z, hm_z⟩
        · replace b802_z : ¬ v799_z = (0 : Int32) ∧ ¬ v799_z.toInt = (0 : Int32).toInt := b802_z
          replace hm_z := rn_aload_n (am_cur_of (i := (308, 1, .aload_n 0, (0, 0, 0), 0)) (by decide +kernel)) g0_z hm_z
          replace hm_z := rn_bipush (w := 59) (am_cur_of (i := (309, 2, .bipush 59, (0, 0, 0), 0)) (by decide +kernel)) (by decide) hm_z
          replace hm_z := rn_callV (M' := am_m171) (o := 164) (ar := [.int 59]) (rest := []) (L := lv_args 0 [.ref 164, .int 59]) (am_cur_of (i := (311, 3, .invokevirtual 194, (171, 1715, 3), 0)) (by decide +kernel)) rfl rfl rfl rfl hm_z
          obtain ⟨r803_z, h804_z, q805_z, hm_z⟩ := hm_z
          obtain ⟨v806_z, rfl⟩ := rn_ret (M := am_m171) rfl (by decide) q805_z
          have K806 := kp_of (a := 171) (by decide) rfl (as := [.ref 164, .int 59]) (ra_Sc (fun _ e => by cases e; rfl) (ra_Sc (ra_Vi) ra_S0)) q805_z
          have z806_z := zM_t z799_z K806.1
          have e17_806 : rg_v h804_z 164 17 = cb := (K806.2 17 (by decide)).trans ecb
          have e18_806 : rg_v h804_z 164 18 = ct := (K806.2 18 (by decide)).trans ect
          have e19_806 : rg_v h804_z 164 19 = cl := (K806.2 19 (by decide)).trans ecl
          have e20_806 : rg_v h804_z 164 20 = cq := (K806.2 20 (by decide)).trans ecq
          replace hm_z : rn _ _ _ _ [.int v806_z] _ _ _ := hm_z
          replace hm_z := rn_if (am_cur_of (i := (314, 3, .ifCond .ne 9, (151, 0, 0), 0)) (by decide +kernel)) hm_z
          rcases hm_z with ⟨b807_z, hm_z⟩ | ⟨b807_z, hm_z⟩
          · replace b807_z : ¬ v806_z = (0 : Int32) ∧ ¬ v806_z.toInt = (0 : Int32).toInt := b807_z
            replace hm_z := rn_aload_n (am_cur_of (i := (323, 1, .aload_n 0, (0, 0, 0), 0)) (by decide +kernel)) g0_z hm_z
            replace hm_z := rn_callV (M' := am_m151) (o := 164) (ar := []) (rest := []) (L := lv_args 0 [.ref 164]) (am_cur_of (i := (324, 3, .invokevirtual 191, (151, 1636, 3), 0)) (by decide +kernel)) rfl rfl rfl rfl hm_z
            obtain ⟨r808_z, h809_z, q810_z, hm_z⟩ := hm_z
            have vo := rn_void rfl q810_z
            subst vo
            have K811 := kp_of (a := 151) (by decide) rfl (as := [.ref 164]) (ra_Sc (fun _ e => by cases e; rfl) ra_S0) q810_z
            have z811_z := zM_t z806_z K811.1
            have e17_811 : rg_v h809_z 164 17 = cb := (K811.2 17 (by decide)).trans e17_806
            have e18_811 : rg_v h809_z 164 18 = ct := (K811.2 18 (by decide)).trans e18_806
            have e19_811 : rg_v h809_z 164 19 = cl := (K811.2 19 (by decide)).trans e19_806
            have e20_811 : rg_v h809_z 164 20 = cq := (K811.2 20 (by decide)).trans e20_806
            replace hm_z : rn _ _ _ _ [] _ _ _ := hm_z
            replace hm_z := rn_iconst (w := 1) (am_cur_of (i := (327, 1, .iconst 1, (0, 0, 0), 0)) (by decide +kernel)) (by decide) hm_z
            replace hm_z := rn_iret (am_cur_of (i := (328, 1, .ireturn, (0, 0, 0), 0)) (by decide +kernel)) hm_z
            obtain ⟨e812_z, e813_z⟩ := hm_z
            rw [e813_z]
            exact ⟨z811_z, ⟨by rw [show rg_v h809_z 164 17 = cb from e17_811]; omega, by rw [show rg_v h809_z 164 17 = cb from e17_811]; omega⟩, ⟨by rw [show rg_v h809_z 164 18 = ct from e18_811]; omega, by rw [show rg_v h809_z 164 18 = ct from e18_811]; omega⟩, ⟨by rw [show rg_v h809_z 164 19 = cl from e19_811]; omega, by rw [show rg_v h809_z 164 19 = cl from e19_811]; omega⟩, ⟨by rw [show rg_v h809_z 164 20 = cq from e20_811]; omega, by rw [show rg_v h809_z 164 20 = cq from e20_811]; omega⟩⟩
          · replace b807_z : v806_z = (0 : Int32) ∧ v806_z.toInt = (0 : Int32).toInt := b807_z
            replace hm_z := rn_aload_n (am_cur_of (i := (317, 1, .aload_n 0, (0, 0, 0), 0)) (by decide +kernel)) g0_z hm_z
            replace hm_z := rn_iconst (w := 1) (am_cur_of (i := (318, 1, .iconst 1, (0, 0, 0), 0)) (by decide +kernel)) (by decide) hm_z
            replace hm_z := rn_callV (M' := am_m158) (o := 164) (ar := [.int 1]) (rest := []) (L := lv_args 0 [.ref 164, .int 1]) (am_cur_of (i := (319, 3, .invokevirtual 181, (158, 1665, 3), 0)) (by decide +kernel)) rfl rfl rfl rfl hm_z
            obtain ⟨r814_z, h815_z, q816_z, hm_z⟩ := hm_z
            obtain ⟨v817_z, rfl⟩ := rn_ret (M := am_m158) rfl (by decide) q816_z
            have K817 := kp_of (a := 158) (by decide) rfl (as := [.ref 164, .int 1]) (ra_Sc (fun _ e => by cases e; rfl) (ra_Sc (ra_Vi) ra_S0)) q816_z
            have z817_z := zM_t z806_z K817.1
            have e17_817 : rg_v h815_z 164 17 = cb := (K817.2 17 (by decide)).trans e17_806
            have e18_817 : rg_v h815_z 164 18 = ct := (K817.2 18 (by decide)).trans e18_806
            have e19_817 : rg_v h815_z 164 19 = cl := (K817.2 19 (by decide)).trans e19_806
            have e20_817 : rg_v h815_z 164 20 = cq := (K817.2 20 (by decide)).trans e20_806
            replace hm_z : rn _ _ _ _ [.int v817_z] _ _ _ := hm_z
            replace hm_z := rn_iret (am_cur_of (i := (322, 1, .ireturn, (0, 0, 0), 0)) (by decide +kernel)) hm_z
            obtain ⟨e818_z, e819_z⟩ := hm_z
            rw [e819_z]
            exact ⟨z817_z, ⟨by rw [show rg_v h815_z 164 17 = cb from e17_817]; omega, by rw [show rg_v h815_z 164 17 = cb from e17_817]; omega⟩, ⟨by rw [show rg_v h815_z 164 18 = ct from e18_817]; omega, by rw [show rg_v h815_z 164 18 = ct from e18_817]; omega⟩, ⟨by rw [show rg_v h815_z 164 19 = cl from e19_817]; omega, by rw [show rg_v h815_z 164 19 = cl from e19_817]; omega⟩, ⟨by rw [show rg_v h815_z 164 20 = cq from e20_817]; omega, by rw [show rg_v h815_z 164 20 = cq from e20_817]; omega⟩⟩
        · replace b802_z : v799_z = (0 : Int32) ∧ v799_z.toInt = (0 : Int32).toInt := b802_z
          replace hm_z := rn_iconst (w := 0) (am_cur_of (i := (306, 1, .iconst 0, (0, 0, 0), 0)) (by decide +kernel)) (by decide) hm_z
          replace hm_z := rn_iret (am_cur_of (i := (307, 1, .ireturn, (0, 0, 0), 0)) (by decide +kernel)) hm_z
          obtain ⟨e820_z, e821_z⟩ := hm_z
          rw [e821_z]
          exact ⟨z799_z, ⟨by rw [show rg_v h797_z 164 17 = cb from ecb]; omega, by rw [show rg_v h797_z 164 17 = cb from ecb]; omega⟩, ⟨by rw [show rg_v h797_z 164 18 = ct from ect]; omega, by rw [show rg_v h797_z 164 18 = ct from ect]; omega⟩, ⟨by rw [show rg_v h797_z 164 19 = cl from ecl]; omega, by rw [show rg_v h797_z 164 19 = cl from ecl]; omega⟩, ⟨by rw [show rg_v h797_z 164 20 = cq from ecq]; omega, by rw [show rg_v h797_z 164 20 = cq from ecq]; omega⟩⟩
      by_cases v822_z : (rg_v g 164 9) = 5
      · replace hm_z := rn_swI (off := 85) (a := 35) (am_cur_of (i := (27, 45, .tableswitch 178 0 7 #[45, 53, 61, 69, 77, 85, 93, 136], (0, 0, 0), 0)) (by decide +kernel)) (by rw [v822_z]; decide) (by rw [v822_z]; decide) (by decide +kernel) hm_z
        replace hm_z := rn_aload_n (am_cur_of (i := (112, 1, .aload_n 0, (0, 0, 0), 0)) (by decide +kernel)) g0_z hm_z
        replace hm_z := rn_callV (M' := am_m169) (o := 164) (ar := []) (rest := []) (L := lv_args 0 [.ref 164]) (am_cur_of (i := (113, 3, .invokevirtual 268, (169, 1707, 3), 0)) (by decide +kernel)) rfl rfl rfl rfl hm_z
        obtain ⟨r823_z, h824_z, q825_z, hm_z⟩ := hm_z
        obtain ⟨v826_z, rfl⟩ := rn_ret (M := am_m169) rfl (by decide) q825_z
        obtain ⟨Y826, C826⟩ := mz_trial (g := g) ⟨⟨by rw [show rg_v g 164 17 = cb from ecb]; omega, by rw [show rg_v g 164 17 = cb from ecb]; omega⟩, ⟨by rw [show rg_v g 164 18 = ct from ect]; omega, by rw [show rg_v g 164 18 = ct from ect]; omega⟩, ⟨by rw [show rg_v g 164 19 = cl from ecl]; omega, by rw [show rg_v g 164 19 = cl from ecl]; omega⟩, ⟨by rw [show rg_v g 164 20 = cq from ecq]; omega, by rw [show rg_v g 164 20 = cq from ecq]; omega⟩⟩ q825_z
        have z826_z := zM_t zM_r Y826
        obtain ⟨⟨b0_z, b4_z⟩, ⟨t0_z, t8_z⟩, ⟨l0_z, l6_z⟩, ⟨q0_z, q3_z⟩⟩ := C826
        obtain ⟨cb, ecb⟩ : ∃ v, rg_v h824_z 164 17 = v := ⟨_, rfl⟩
        rw [ecb] at b0_z b4_z
        obtain ⟨ct, ect⟩ : ∃ v, rg_v h824_z 164 18 = v := ⟨_, rfl⟩
        rw [ect] at t0_z t8_z
        obtain ⟨cl, ecl⟩ : ∃ v, rg_v h824_z 164 19 = v := ⟨_, rfl⟩
        rw [ecl] at l0_z l6_z
        obtain ⟨cq, ecq⟩ : ∃ v, rg_v h824_z 164 20 = v := ⟨_, rfl⟩
        rw [ecq] at q0_z q3_z
        replace hm_z : rn _ _ _ _ [.int v826_z] _ _ _ := hm_z
        replace hm_z := rn_istore_n (am_cur_of (i := (116, 1, .istore_n 1, (0, 0, 0), 0)) (by decide +kernel)) hm_z
        obtain ⟨_, s827_z, s828_z, g1_z, hm_z⟩ := hm_z
        replace g0_z := s827_z 0 _ (by decide) rfl g0_z
        clear s827_z s828_z
        replace hm_z := rn_goto (am_cur_of (i := (117, 3, .goto 185, (139, 0, 0), 0)) (by decide +kernel)) hm_z
        replace hm_z := rn_iload_n (am_cur_of (i := (302, 1, .iload_n 1, (0, 0, 0), 0)) (by decide +kernel)) g1_z hm_z
        replace hm_z := rn_if (am_cur_of (i := (303, 3, .ifCond .ne 5, (143, 0, 0), 0)) (by decide +kernel)) hm_z
        rcases hm_z with ⟨b829_z, hm_z⟩ | ⟨b829_z, hm_z⟩
        · replace b829_z : ¬ v826_z = (0 : Int32) ∧ ¬ v826_z.toInt = (0 : Int32).toInt := b829_z
          replace hm_z := rn_aload_n (am_cur_of (i := (308, 1, .aload_n 0, (0, 0, 0), 0)) (by decide +kernel)) g0_z hm_z
          replace hm_z := rn_bipush (w := 59) (am_cur_of (i := (309, 2, .bipush 59, (0, 0, 0), 0)) (by decide +kernel)) (by decide) hm_z
          replace hm_z := rn_callV (M' := am_m171) (o := 164) (ar := [.int 59]) (rest := []) (L := lv_args 0 [.ref 164, .int 59]) (am_cur_of (i := (311, 3, .invokevirtual 194, (171, 1715, 3), 0)) (by decide +kernel)) rfl rfl rfl rfl hm_z
          obtain ⟨r830_z, h831_z, q832_z, hm_z⟩ := hm_z
          obtain ⟨v833_z, rfl⟩ := rn_ret (M := am_m171) rfl (by decide) q832_z
          have K833 := kp_of (a := 171) (by decide) rfl (as := [.ref 164, .int 59]) (ra_Sc (fun _ e => by cases e; rfl) (ra_Sc (ra_Vi) ra_S0)) q832_z
          have z833_z := zM_t z826_z K833.1
          have e17_833 : rg_v h831_z 164 17 = cb := (K833.2 17 (by decide)).trans ecb
          have e18_833 : rg_v h831_z 164 18 = ct := (K833.2 18 (by decide)).trans ect
          have e19_833 : rg_v h831_z 164 19 = cl := (K833.2 19 (by decide)).trans ecl
          have e20_833 : rg_v h831_z 164 20 = cq := (K833.2 20 (by decide)).trans ecq
          replace hm_z : rn _ _ _ _ [.int v833_z] _ _ _ := hm_z
          replace hm_z := rn_if (am_cur_of (i := (314, 3, .ifCond .ne 9, (151, 0, 0), 0)) (by decide +kernel)) hm_z
          rcases hm_z with ⟨b834_z, hm_z⟩ | ⟨b834_z, hm_z⟩
          · replace b834_z : ¬ v833_z = (0 : Int32) ∧ ¬ v833_z.toInt = (0 : Int32).toInt := b834_z
            replace hm_z := rn_aload_n (am_cur_of (i := (323, 1, .aload_n 0, (0, 0, 0), 0)) (by decide +kernel)) g0_z hm_z
            replace hm_z := rn_callV (M' := am_m151) (o := 164) (ar := []) (rest := []) (L := lv_args 0 [.ref 164]) (am_cur_of (i := (324, 3, .invokevirtual 191, (151, 1636, 3), 0)) (by decide +kernel)) rfl rfl rfl rfl hm_z
            obtain ⟨r835_z, h836_z, q837_z, hm_z⟩ := hm_z
            have vo := rn_void rfl q837_z
            subst vo
            have K838 := kp_of (a := 151) (by decide) rfl (as := [.ref 164]) (ra_Sc (fun _ e => by cases e; rfl) ra_S0) q837_z
            have z838_z := zM_t z833_z K838.1
            have e17_838 : rg_v h836_z 164 17 = cb := (K838.2 17 (by decide)).trans e17_833
            have e18_838 : rg_v h836_z 164 18 = ct := (K838.2 18 (by decide)).trans e18_833
            have e19_838 : rg_v h836_z 164 19 = cl := (K838.2 19 (by decide)).trans e19_833
            have e20_838 : rg_v h836_z 164 20 = cq := (K838.2 20 (by decide)).trans e20_833
            replace hm_z : rn _ _ _ _ [] _ _ _ := hm_z
            replace hm_z := rn_iconst (w := 1) (am_cur_of (i := (327, 1, .iconst 1, (0, 0, 0), 0)) (by decide +kernel)) (by decide) hm_z
            replace hm_z := rn_iret (am_cur_of (i := (328, 1, .ireturn, (0, 0, 0), 0)) (by decide +kernel)) hm_z
            obtain ⟨e839_z, e840_z⟩ := hm_z
            rw [e840_z]
            exact ⟨z838_z, ⟨by rw [show rg_v h836_z 164 17 = cb from e17_838]; omega, by rw [show rg_v h836_z 164 17 = cb from e17_838]; omega⟩, ⟨by rw [show rg_v h836_z 164 18 = ct from e18_838]; omega, by rw [show rg_v h836_z 164 18 = ct from e18_838]; omega⟩, ⟨by rw [show rg_v h836_z 164 19 = cl from e19_838]; omega, by rw [show rg_v h836_z 164 19 = cl from e19_838]; omega⟩, ⟨by rw [show rg_v h836_z 164 20 = cq from e20_838]; omega, by rw [show rg_v h836_z 164 20 = cq from e20_838]; omega⟩⟩
          · replace b834_z : v833_z = (0 : Int32) ∧ v833_z.toInt = (0 : Int32).toInt := b834_z
            replace hm_z := rn_aload_n (am_cur_of (i := (317, 1, .aload_n 0, (0, 0, 0), 0)) (by decide +kernel)) g0_z hm_z
            replace hm_z := rn_iconst (w := 1) (am_cur_of (i := (318, 1, .iconst 1, (0, 0, 0), 0)) (by decide +kernel)) (by decide) hm_z
            replace hm_z := rn_callV (M' := am_m158) (o := 164) (ar := [.int 1]) (rest := []) (L := lv_args 0 [.ref 164, .int 1]) (am_cur_of (i := (319, 3, .invokevirtual 181, (158, 1665, 3), 0)) (by decide +kernel)) rfl rfl rfl rfl hm_z
            obtain ⟨r841_z, h842_z, q843_z, hm_z⟩ := hm_z
            obtain ⟨v844_z, rfl⟩ := rn_ret (M := am_m158) rfl (by decide) q843_z
            have K844 := kp_of (a := 158) (by decide) rfl (as := [.ref 164, .int 1]) (ra_Sc (fun _ e => by cases e; rfl) (ra_Sc (ra_Vi) ra_S0)) q843_z
            have z844_z := zM_t z833_z K844.1
            have e17_844 : rg_v h842_z 164 17 = cb := (K844.2 17 (by decide)).trans e17_833
            have e18_844 : rg_v h842_z 164 18 = ct := (K844.2 18 (by decide)).trans e18_833
            have e19_844 : rg_v h842_z 164 19 = cl := (K844.2 19 (by decide)).trans e19_833
            have e20_844 : rg_v h842_z 164 20 = cq := (K844.2 20 (by decide)).trans e20_833
            replace hm_z : rn _ _ _ _ [.int v844_z] _ _ _ := hm_z
            replace hm_z := rn_iret (am_cur_of (i := (322, 1, .ireturn, (0, 0, 0), 0)) (by decide +kernel)) hm_z
            obtain ⟨e845_z, e846_z⟩ := hm_z
            rw [e846_z]
            exact ⟨z844_z, ⟨by rw [show rg_v h842_z 164 17 = cb from e17_844]; omega, by rw [show rg_v h842_z 164 17 = cb from e17_844]; omega⟩, ⟨by rw [show rg_v h842_z 164 18 = ct from e18_844]; omega, by rw [show rg_v h842_z 164 18 = ct from e18_844]; omega⟩, ⟨by rw [show rg_v h842_z 164 19 = cl from e19_844]; omega, by rw [show rg_v h842_z 164 19 = cl from e19_844]; omega⟩, ⟨by rw [show rg_v h842_z 164 20 = cq from e20_844]; omega, by rw [show rg_v h842_z 164 20 = cq from e20_844]; omega⟩⟩
        · replace b829_z : v826_z = (0 : Int32) ∧ v826_z.toInt = (0 : Int32).toInt := b829_z
          replace hm_z := rn_iconst (w := 0) (am_cur_of (i := (306, 1, .iconst 0, (0, 0, 0), 0)) (by decide +kernel)) (by decide) hm_z
          replace hm_z := rn_iret (am_cur_of (i := (307, 1, .ireturn, (0, 0, 0), 0)) (by decide +kernel)) hm_z
          obtain ⟨e847_z, e848_z⟩ := hm_z
          rw [e848_z]
          exact ⟨z826_z, ⟨by rw [show rg_v h824_z 164 17 = cb from ecb]; omega, by rw [show rg_v h824_z 164 17 = cb from ecb]; omega⟩, ⟨by rw [show rg_v h824_z 164 18 = ct from ect]; omega, by rw [show rg_v h824_z 164 18 = ct from ect]; omega⟩, ⟨by rw [show rg_v h824_z 164 19 = cl from ecl]; omega, by rw [show rg_v h824_z 164 19 = cl from ecl]; omega⟩, ⟨by rw [show rg_v h824_z 164 20 = cq from ecq]; omega, by rw [show rg_v h824_z 164 20 = cq from ecq]; omega⟩⟩
      by_cases v849_z : (rg_v g 164 9) = 6
      · replace hm_z := rn_swI (off := 93) (a := 39) (am_cur_of (i := (27, 45, .tableswitch 178 0 7 #[45, 53, 61, 69, 77, 85, 93, 136], (0, 0, 0), 0)) (by decide +kernel)) (by rw [v849_z]; decide) (by rw [v849_z]; decide) (by decide +kernel) hm_z
        replace hm_z := rn_aload_n (am_cur_of (i := (120, 1, .aload_n 0, (0, 0, 0), 0)) (by decide +kernel)) g0_z hm_z
        replace hm_z := rn_iconst (w := 2) (am_cur_of (i := (121, 1, .iconst 2, (0, 0, 0), 0)) (by decide +kernel)) (by decide) hm_z
        replace hm_z := rn_callV (M' := am_m160) (o := 164) (ar := [.int 2]) (rest := []) (L := lv_args 0 [.ref 164, .int 2]) (am_cur_of (i := (122, 3, .invokevirtual 245, (160, 1673, 3), 0)) (by decide +kernel)) rfl rfl rfl rfl hm_z
        obtain ⟨r850_z, h851_z, q852_z, hm_z⟩ := hm_z
        obtain ⟨v853_z, rfl⟩ := rn_ret (M := am_m160) rfl (by decide) q852_z
        have K853 := kp_of (a := 160) (by decide) rfl (as := [.ref 164, .int 2]) (ra_Sc (fun _ e => by cases e; rfl) (ra_Sc (ra_Vi) ra_S0)) q852_z
        have z853_z := zM_t zM_r K853.1
        have e17_853 : rg_v h851_z 164 17 = cb := (K853.2 17 (by decide)).trans ecb
        have e18_853 : rg_v h851_z 164 18 = ct := (K853.2 18 (by decide)).trans ect
        have e19_853 : rg_v h851_z 164 19 = cl := (K853.2 19 (by decide)).trans ecl
        have e20_853 : rg_v h851_z 164 20 = cq := (K853.2 20 (by decide)).trans ecq
        replace hm_z : rn _ _ _ _ [.int v853_z] _ _ _ := hm_z
        replace hm_z := rn_if (am_cur_of (i := (125, 3, .ifCond .eq 18, (50, 0, 0), 0)) (by decide +kernel)) hm_z
        rcases hm_z with ⟨b854_z, hm_z⟩ | ⟨b854_z, hm_z⟩
        · replace b854_z : v853_z = (0 : Int32) ∧ v853_z.toInt = (0 : Int32).toInt := b854_z
          replace hm_z := rn_iconst (w := 0) (am_cur_of (i := (143, 1, .iconst 0, (0, 0, 0), 0)) (by decide +kernel)) (by decide) hm_z
          replace hm_z := rn_istore_n (am_cur_of (i := (144, 1, .istore_n 1, (0, 0, 0), 0)) (by decide +kernel)) hm_z
          obtain ⟨_, s855_z, s856_z, g1_z, hm_z⟩ := hm_z
          replace g0_z := s855_z 0 _ (by decide) rfl g0_z
          clear s855_z s856_z
          replace hm_z := rn_iload_n (am_cur_of (i := (145, 1, .iload_n 1, (0, 0, 0), 0)) (by decide +kernel)) g1_z hm_z
          replace hm_z := rn_ifT (am_cur_of (i := (146, 3, .ifCond .eq 156, (139, 0, 0), 0)) (by decide +kernel)) (by decide) hm_z
          replace hm_z := rn_iload_n (am_cur_of (i := (302, 1, .iload_n 1, (0, 0, 0), 0)) (by decide +kernel)) g1_z hm_z
          replace hm_z := rn_ifF (am_cur_of (i := (303, 3, .ifCond .ne 5, (143, 0, 0), 0)) (by decide +kernel)) (by decide) hm_z
          replace hm_z := rn_iconst (w := 0) (am_cur_of (i := (306, 1, .iconst 0, (0, 0, 0), 0)) (by decide +kernel)) (by decide) hm_z
          replace hm_z := rn_iret (am_cur_of (i := (307, 1, .ireturn, (0, 0, 0), 0)) (by decide +kernel)) hm_z
          obtain ⟨e857_z, e858_z⟩ := hm_z
          rw [e858_z]
          exact ⟨z853_z, ⟨by rw [show rg_v h851_z 164 17 = cb from e17_853]; omega, by rw [show rg_v h851_z 164 17 = cb from e17_853]; omega⟩, ⟨by rw [show rg_v h851_z 164 18 = ct from e18_853]; omega, by rw [show rg_v h851_z 164 18 = ct from e18_853]; omega⟩, ⟨by rw [show rg_v h851_z 164 19 = cl from e19_853]; omega, by rw [show rg_v h851_z 164 19 = cl from e19_853]; omega⟩, ⟨by rw [show rg_v h851_z 164 20 = cq from e20_853]; omega, by rw [show rg_v h851_z 164 20 = cq from e20_853]; omega⟩⟩
        · replace b854_z : ¬ v853_z = (0 : Int32) ∧ ¬ v853_z.toInt = (0 : Int32).toInt := b854_z
          replace hm_z := rn_aload_n (am_cur_of (i := (128, 1, .aload_n 0, (0, 0, 0), 0)) (by decide +kernel)) g0_z hm_z
          replace hm_z := rn_iconst (w := 0) (am_cur_of (i := (129, 1, .iconst 0, (0, 0, 0), 0)) (by decide +kernel)) (by decide) hm_z
          replace hm_z := rn_sipush (w := 999) (am_cur_of (i := (130, 3, .sipush 999, (0, 0, 0), 0)) (by decide +kernel)) (by decide) hm_z
          replace hm_z := rn_callV (M' := am_m161) (o := 164) (ar := [.int 999, .int 0]) (rest := []) (L := lv_args 0 [.ref 164, .int 0, .int 999]) (am_cur_of (i := (133, 3, .invokevirtual 197, (161, 1677, 3), 0)) (by decide +kernel)) rfl rfl rfl rfl hm_z
          obtain ⟨r859_z, h860_z, q861_z, hm_z⟩ := hm_z
          obtain ⟨v862_z, rfl⟩ := rn_ret (M := am_m161) rfl (by decide) q861_z
          have K862 := kp_of (a := 161) (by decide) rfl (as := [.ref 164, .int 0, .int 999]) (ra_Sc (fun _ e => by cases e; rfl) (ra_Sc (ra_Vi) (ra_Sc (ra_Vi) ra_S0))) q861_z
          have z862_z := zM_t z853_z K862.1
          have e17_862 : rg_v h860_z 164 17 = cb := (K862.2 17 (by decide)).trans e17_853
          have e18_862 : rg_v h860_z 164 18 = ct := (K862.2 18 (by decide)).trans e18_853
          have e19_862 : rg_v h860_z 164 19 = cl := (K862.2 19 (by decide)).trans e19_853
          have e20_862 : rg_v h860_z 164 20 = cq := (K862.2 20 (by decide)).trans e20_853
          replace hm_z : rn _ _ _ _ [.int v862_z] _ _ _ := hm_z
          replace hm_z := rn_if (am_cur_of (i := (136, 3, .ifCond .eq 7, (50, 0, 0), 0)) (by decide +kernel)) hm_z
          rcases hm_z with ⟨b863_z, hm_z⟩ | ⟨b863_z, hm_z⟩
          · replace b863_z : v862_z = (0 : Int32) ∧ v862_z.toInt = (0 : Int32).toInt := b863_z
            replace hm_z := rn_iconst (w := 0) (am_cur_of (i := (143, 1, .iconst 0, (0, 0, 0), 0)) (by decide +kernel)) (by decide) hm_z
            replace hm_z := rn_istore_n (am_cur_of (i := (144, 1, .istore_n 1, (0, 0, 0), 0)) (by decide +kernel)) hm_z
            obtain ⟨_, s864_z, s865_z, g1_z, hm_z⟩ := hm_z
            replace g0_z := s864_z 0 _ (by decide) rfl g0_z
            clear s864_z s865_z
            replace hm_z := rn_iload_n (am_cur_of (i := (145, 1, .iload_n 1, (0, 0, 0), 0)) (by decide +kernel)) g1_z hm_z
            replace hm_z := rn_ifT (am_cur_of (i := (146, 3, .ifCond .eq 156, (139, 0, 0), 0)) (by decide +kernel)) (by decide) hm_z
            replace hm_z := rn_iload_n (am_cur_of (i := (302, 1, .iload_n 1, (0, 0, 0), 0)) (by decide +kernel)) g1_z hm_z
            replace hm_z := rn_ifF (am_cur_of (i := (303, 3, .ifCond .ne 5, (143, 0, 0), 0)) (by decide +kernel)) (by decide) hm_z
            replace hm_z := rn_iconst (w := 0) (am_cur_of (i := (306, 1, .iconst 0, (0, 0, 0), 0)) (by decide +kernel)) (by decide) hm_z
            replace hm_z := rn_iret (am_cur_of (i := (307, 1, .ireturn, (0, 0, 0), 0)) (by decide +kernel)) hm_z
            obtain ⟨e866_z, e867_z⟩ := hm_z
            rw [e867_z]
            exact ⟨z862_z, ⟨by rw [show rg_v h860_z 164 17 = cb from e17_862]; omega, by rw [show rg_v h860_z 164 17 = cb from e17_862]; omega⟩, ⟨by rw [show rg_v h860_z 164 18 = ct from e18_862]; omega, by rw [show rg_v h860_z 164 18 = ct from e18_862]; omega⟩, ⟨by rw [show rg_v h860_z 164 19 = cl from e19_862]; omega, by rw [show rg_v h860_z 164 19 = cl from e19_862]; omega⟩, ⟨by rw [show rg_v h860_z 164 20 = cq from e20_862]; omega, by rw [show rg_v h860_z 164 20 = cq from e20_862]; omega⟩⟩
          · replace b863_z : ¬ v862_z = (0 : Int32) ∧ ¬ v862_z.toInt = (0 : Int32).toInt := b863_z
            replace hm_z := rn_iconst (w := 1) (am_cur_of (i := (139, 1, .iconst 1, (0, 0, 0), 0)) (by decide +kernel)) (by decide) hm_z
            replace hm_z := rn_goto (am_cur_of (i := (140, 3, .goto 4, (51, 0, 0), 0)) (by decide +kernel)) hm_z
            replace hm_z := rn_istore_n (am_cur_of (i := (144, 1, .istore_n 1, (0, 0, 0), 0)) (by decide +kernel)) hm_z
            obtain ⟨_, s868_z, s869_z, g1_z, hm_z⟩ := hm_z
            replace g0_z := s868_z 0 _ (by decide) rfl g0_z
            clear s868_z s869_z
            replace hm_z := rn_iload_n (am_cur_of (i := (145, 1, .iload_n 1, (0, 0, 0), 0)) (by decide +kernel)) g1_z hm_z
            replace hm_z := rn_ifF (am_cur_of (i := (146, 3, .ifCond .eq 156, (139, 0, 0), 0)) (by decide +kernel)) (by decide) hm_z
            replace hm_z := rn_aload_n (am_cur_of (i := (149, 1, .aload_n 0, (0, 0, 0), 0)) (by decide +kernel)) g0_z hm_z
            replace hm_z := rn_getR (x := 168) (am_cur_of (i := (150, 3, .getfield 24, (12, 23, 1407), 0)) (by decide +kernel)) (by decide +kernel) hm_z
            replace hm_z := rn_bipush (w := 10) (am_cur_of (i := (153, 2, .bipush 10, (0, 0, 0), 0)) (by decide +kernel)) (by decide) hm_z
            replace hm_z := rn_aload_n (am_cur_of (i := (155, 1, .aload_n 0, (0, 0, 0), 0)) (by decide +kernel)) g0_z hm_z
            replace hm_z := rn_getI (v := rg_v h860_z 164 11) (am_cur_of (i := (156, 3, .getfield 188, (12, 11, 1395), 0)) (by decide +kernel)) (by decide +kernel) rfl hm_z
            replace hm_z := rn_iastore (N := 12) (q := 10) (am_cur_of (i := (159, 1, .iastore, (0, 0, 0), 0)) (by decide +kernel)) (by decide +kernel) rfl hm_z
            obtain ⟨p870_z, hm_z⟩ := hm_z
            replace hm_z := rn_goto (am_cur_of (i := (160, 3, .goto 142, (139, 0, 0), 0)) (by decide +kernel)) hm_z
            replace hm_z := rn_iload_n (am_cur_of (i := (302, 1, .iload_n 1, (0, 0, 0), 0)) (by decide +kernel)) g1_z hm_z
            replace hm_z := rn_ifT (am_cur_of (i := (303, 3, .ifCond .ne 5, (143, 0, 0), 0)) (by decide +kernel)) (by decide) hm_z
            replace hm_z := rn_aload_n (am_cur_of (i := (308, 1, .aload_n 0, (0, 0, 0), 0)) (by decide +kernel)) g0_z hm_z
            replace hm_z := rn_bipush (w := 59) (am_cur_of (i := (309, 2, .bipush 59, (0, 0, 0), 0)) (by decide +kernel)) (by decide) hm_z
            replace hm_z := rn_callV (M' := am_m171) (o := 164) (ar := [.int 59]) (rest := []) (L := lv_args 0 [.ref 164, .int 59]) (am_cur_of (i := (311, 3, .invokevirtual 194, (171, 1715, 3), 0)) (by decide +kernel)) rfl rfl rfl rfl hm_z
            obtain ⟨r871_z, h872_z, q873_z, hm_z⟩ := hm_z
            obtain ⟨v874_z, rfl⟩ := rn_ret (M := am_m171) rfl (by decide) q873_z
            have K874 := kp_of (a := 171) (by decide) rfl (as := [.ref 164, .int 59]) (ra_Sc (fun _ e => by cases e; rfl) (ra_Sc (ra_Vi) ra_S0)) q873_z
            have z874_z := zM_t (zM_u (o := 168) (k := 10) (by decide) z862_z) K874.1
            have e17_874 : rg_v h872_z 164 17 = cb := (K874.2 17 (by decide)).trans (show rg_v (am_up h860_z 168 10 (.int (rg_v h860_z 164 11))) 164 17 = cb from e17_862)
            have e18_874 : rg_v h872_z 164 18 = ct := (K874.2 18 (by decide)).trans (show rg_v (am_up h860_z 168 10 (.int (rg_v h860_z 164 11))) 164 18 = ct from e18_862)
            have e19_874 : rg_v h872_z 164 19 = cl := (K874.2 19 (by decide)).trans (show rg_v (am_up h860_z 168 10 (.int (rg_v h860_z 164 11))) 164 19 = cl from e19_862)
            have e20_874 : rg_v h872_z 164 20 = cq := (K874.2 20 (by decide)).trans (show rg_v (am_up h860_z 168 10 (.int (rg_v h860_z 164 11))) 164 20 = cq from e20_862)
            replace hm_z : rn _ _ _ _ [.int v874_z] _ _ _ := hm_z
            replace hm_z := rn_if (am_cur_of (i := (314, 3, .ifCond .ne 9, (151, 0, 0), 0)) (by decide +kernel)) hm_z
            rcases hm_z with ⟨b875_z, hm_z⟩ | ⟨b875_z, hm_z⟩
            · replace b875_z : ¬ v874_z = (0 : Int32) ∧ ¬ v874_z.toInt = (0 : Int32).toInt := b875_z
              replace hm_z := rn_aload_n (am_cur_of (i := (323, 1, .aload_n 0, (0, 0, 0), 0)) (by decide +kernel)) g0_z hm_z
              replace hm_z := rn_callV (M' := am_m151) (o := 164) (ar := []) (rest := []) (L := lv_args 0 [.ref 164]) (am_cur_of (i := (324, 3, .invokevirtual 191, (151, 1636, 3), 0)) (by decide +kernel)) rfl rfl rfl rfl hm_z
              obtain ⟨r876_z, h877_z, q878_z, hm_z⟩ := hm_z
              have vo := rn_void rfl q878_z
              subst vo
              have K879 := kp_of (a := 151) (by decide) rfl (as := [.ref 164]) (ra_Sc (fun _ e => by cases e; rfl) ra_S0) q878_z
              have z879_z := zM_t z874_z K879.1
              have e17_879 : rg_v h877_z 164 17 = cb := (K879.2 17 (by decide)).trans e17_874
              have e18_879 : rg_v h877_z 164 18 = ct := (K879.2 18 (by decide)).trans e18_874
              have e19_879 : rg_v h877_z 164 19 = cl := (K879.2 19 (by decide)).trans e19_874
              have e20_879 : rg_v h877_z 164 20 = cq := (K879.2 20 (by decide)).trans e20_874
              replace hm_z : rn _ _ _ _ [] _ _ _ := hm_z
              replace hm_z := rn_iconst (w := 1) (am_cur_of (i := (327, 1, .iconst 1, (0, 0, 0), 0)) (by decide +kernel)) (by decide) hm_z
              replace hm_z := rn_iret (am_cur_of (i := (328, 1, .ireturn, (0, 0, 0), 0)) (by decide +kernel)) hm_z
              obtain ⟨e880_z, e881_z⟩ := hm_z
              rw [e881_z]
              exact ⟨z879_z, ⟨by rw [show rg_v h877_z 164 17 = cb from e17_879]; omega, by rw [show rg_v h877_z 164 17 = cb from e17_879]; omega⟩, ⟨by rw [show rg_v h877_z 164 18 = ct from e18_879]; omega, by rw [show rg_v h877_z 164 18 = ct from e18_879]; omega⟩, ⟨by rw [show rg_v h877_z 164 19 = cl from e19_879]; omega, by rw [show rg_v h877_z 164 19 = cl from e19_879]; omega⟩, ⟨by rw [show rg_v h877_z 164 20 = cq from e20_879]; omega, by rw [show rg_v h877_z 164 20 = cq from e20_879]; omega⟩⟩
            · replace b875_z : v874_z = (0 : Int32) ∧ v874_z.toInt = (0 : Int32).toInt := b875_z
              replace hm_z := rn_aload_n (am_cur_of (i := (317, 1, .aload_n 0, (0, 0, 0), 0)) (by decide +kernel)) g0_z hm_z
              replace hm_z := rn_iconst (w := 1) (am_cur_of (i := (318, 1, .iconst 1, (0, 0, 0), 0)) (by decide +kernel)) (by decide) hm_z
              replace hm_z := rn_callV (M' := am_m158) (o := 164) (ar := [.int 1]) (rest := []) (L := lv_args 0 [.ref 164, .int 1]) (am_cur_of (i := (319, 3, .invokevirtual 181, (158, 1665, 3), 0)) (by decide +kernel)) rfl rfl rfl rfl hm_z
              obtain ⟨r882_z, h883_z, q884_z, hm_z⟩ := hm_z
              obtain ⟨v885_z, rfl⟩ := rn_ret (M := am_m158) rfl (by decide) q884_z
              have K885 := kp_of (a := 158) (by decide) rfl (as := [.ref 164, .int 1]) (ra_Sc (fun _ e => by cases e; rfl) (ra_Sc (ra_Vi) ra_S0)) q884_z
              have z885_z := zM_t z874_z K885.1
              have e17_885 : rg_v h883_z 164 17 = cb := (K885.2 17 (by decide)).trans e17_874
              have e18_885 : rg_v h883_z 164 18 = ct := (K885.2 18 (by decide)).trans e18_874
              have e19_885 : rg_v h883_z 164 19 = cl := (K885.2 19 (by decide)).trans e19_874
              have e20_885 : rg_v h883_z 164 20 = cq := (K885.2 20 (by decide)).trans e20_874
              replace hm_z : rn _ _ _ _ [.int v885_z] _ _ _ := hm_z
              replace hm_z := rn_iret (am_cur_of (i := (322, 1, .ireturn, (0, 0, 0), 0)) (by decide +kernel)) hm_z
              obtain ⟨e886_z, e887_z⟩ := hm_z
              rw [e887_z]
              exact ⟨z885_z, ⟨by rw [show rg_v h883_z 164 17 = cb from e17_885]; omega, by rw [show rg_v h883_z 164 17 = cb from e17_885]; omega⟩, ⟨by rw [show rg_v h883_z 164 18 = ct from e18_885]; omega, by rw [show rg_v h883_z 164 18 = ct from e18_885]; omega⟩, ⟨by rw [show rg_v h883_z 164 19 = cl from e19_885]; omega, by rw [show rg_v h883_z 164 19 = cl from e19_885]; omega⟩, ⟨by rw [show rg_v h883_z 164 20 = cq from e20_885]; omega, by rw [show rg_v h883_z 164 20 = cq from e20_885]; omega⟩⟩
      by_cases v888_z : (rg_v g 164 9) = 7
      · replace hm_z := rn_swI (off := 136) (a := 61) (am_cur_of (i := (27, 45, .tableswitch 178 0 7 #[45, 53, 61, 69, 77, 85, 93, 136], (0, 0, 0), 0)) (by decide +kernel)) (by rw [v888_z]; decide) (by rw [v888_z]; decide) (by decide +kernel) hm_z
        replace hm_z := rn_aload_n (am_cur_of (i := (163, 1, .aload_n 0, (0, 0, 0), 0)) (by decide +kernel)) g0_z hm_z
        replace hm_z := rn_iconst (w := 3) (am_cur_of (i := (164, 1, .iconst 3, (0, 0, 0), 0)) (by decide +kernel)) (by decide) hm_z
        replace hm_z := rn_callV (M' := am_m160) (o := 164) (ar := [.int 3]) (rest := []) (L := lv_args 0 [.ref 164, .int 3]) (am_cur_of (i := (165, 3, .invokevirtual 245, (160, 1673, 3), 0)) (by decide +kernel)) rfl rfl rfl rfl hm_z
        obtain ⟨r889_z, h890_z, q891_z, hm_z⟩ := hm_z
        obtain ⟨v892_z, rfl⟩ := rn_ret (M := am_m160) rfl (by decide) q891_z
        have K892 := kp_of (a := 160) (by decide) rfl (as := [.ref 164, .int 3]) (ra_Sc (fun _ e => by cases e; rfl) (ra_Sc (ra_Vi) ra_S0)) q891_z
        have z892_z := zM_t zM_r K892.1
        have e17_892 : rg_v h890_z 164 17 = cb := (K892.2 17 (by decide)).trans ecb
        have e18_892 : rg_v h890_z 164 18 = ct := (K892.2 18 (by decide)).trans ect
        have e19_892 : rg_v h890_z 164 19 = cl := (K892.2 19 (by decide)).trans ecl
        have e20_892 : rg_v h890_z 164 20 = cq := (K892.2 20 (by decide)).trans ecq
        replace hm_z : rn _ _ _ _ [.int v892_z] _ _ _ := hm_z
        replace hm_z := rn_if (am_cur_of (i := (168, 3, .ifCond .eq 17, (72, 0, 0), 0)) (by decide +kernel)) hm_z
        rcases hm_z with ⟨b893_z, hm_z⟩ | ⟨b893_z, hm_z⟩
        · replace b893_z : v892_z = (0 : Int32) ∧ v892_z.toInt = (0 : Int32).toInt := b893_z
          replace hm_z := rn_iconst (w := 0) (am_cur_of (i := (185, 1, .iconst 0, (0, 0, 0), 0)) (by decide +kernel)) (by decide) hm_z
          replace hm_z := rn_istore_n (am_cur_of (i := (186, 1, .istore_n 1, (0, 0, 0), 0)) (by decide +kernel)) hm_z
          obtain ⟨_, s894_z, s895_z, g1_z, hm_z⟩ := hm_z
          replace g0_z := s894_z 0 _ (by decide) rfl g0_z
          clear s894_z s895_z
          replace hm_z := rn_iload_n (am_cur_of (i := (187, 1, .iload_n 1, (0, 0, 0), 0)) (by decide +kernel)) g1_z hm_z
          replace hm_z := rn_ifT (am_cur_of (i := (188, 3, .ifCond .eq 114, (139, 0, 0), 0)) (by decide +kernel)) (by decide) hm_z
          replace hm_z := rn_iload_n (am_cur_of (i := (302, 1, .iload_n 1, (0, 0, 0), 0)) (by decide +kernel)) g1_z hm_z
          replace hm_z := rn_ifF (am_cur_of (i := (303, 3, .ifCond .ne 5, (143, 0, 0), 0)) (by decide +kernel)) (by decide) hm_z
          replace hm_z := rn_iconst (w := 0) (am_cur_of (i := (306, 1, .iconst 0, (0, 0, 0), 0)) (by decide +kernel)) (by decide) hm_z
          replace hm_z := rn_iret (am_cur_of (i := (307, 1, .ireturn, (0, 0, 0), 0)) (by decide +kernel)) hm_z
          obtain ⟨e896_z, e897_z⟩ := hm_z
          rw [e897_z]
          exact ⟨z892_z, ⟨by rw [show rg_v h890_z 164 17 = cb from e17_892]; omega, by rw [show rg_v h890_z 164 17 = cb from e17_892]; omega⟩, ⟨by rw [show rg_v h890_z 164 18 = ct from e18_892]; omega, by rw [show rg_v h890_z 164 18 = ct from e18_892]; omega⟩, ⟨by rw [show rg_v h890_z 164 19 = cl from e19_892]; omega, by rw [show rg_v h890_z 164 19 = cl from e19_892]; omega⟩, ⟨by rw [show rg_v h890_z 164 20 = cq from e20_892]; omega, by rw [show rg_v h890_z 164 20 = cq from e20_892]; omega⟩⟩
        · replace b893_z : ¬ v892_z = (0 : Int32) ∧ ¬ v892_z.toInt = (0 : Int32).toInt := b893_z
          replace hm_z := rn_aload_n (am_cur_of (i := (171, 1, .aload_n 0, (0, 0, 0), 0)) (by decide +kernel)) g0_z hm_z
          replace hm_z := rn_iconst (w := 0) (am_cur_of (i := (172, 1, .iconst 0, (0, 0, 0), 0)) (by decide +kernel)) (by decide) hm_z
          replace hm_z := rn_ldc (w := 99999) (am_cur_of (i := (173, 2, .ldc 177, (0, 0, 1656), 99999)) (by decide +kernel)) (by decide) hm_z
          replace hm_z := rn_callV (M' := am_m161) (o := 164) (ar := [.int 99999, .int 0]) (rest := []) (L := lv_args 0 [.ref 164, .int 0, .int 99999]) (am_cur_of (i := (175, 3, .invokevirtual 197, (161, 1677, 3), 0)) (by decide +kernel)) rfl rfl rfl rfl hm_z
          obtain ⟨r898_z, h899_z, q900_z, hm_z⟩ := hm_z
          obtain ⟨v901_z, rfl⟩ := rn_ret (M := am_m161) rfl (by decide) q900_z
          have K901 := kp_of (a := 161) (by decide) rfl (as := [.ref 164, .int 0, .int 99999]) (ra_Sc (fun _ e => by cases e; rfl) (ra_Sc (ra_Vi) (ra_Sc (ra_Vi) ra_S0))) q900_z
          have z901_z := zM_t z892_z K901.1
          have e17_901 : rg_v h899_z 164 17 = cb := (K901.2 17 (by decide)).trans e17_892
          have e18_901 : rg_v h899_z 164 18 = ct := (K901.2 18 (by decide)).trans e18_892
          have e19_901 : rg_v h899_z 164 19 = cl := (K901.2 19 (by decide)).trans e19_892
          have e20_901 : rg_v h899_z 164 20 = cq := (K901.2 20 (by decide)).trans e20_892
          replace hm_z : rn _ _ _ _ [.int v901_z] _ _ _ := hm_z
          replace hm_z := rn_if (am_cur_of (i := (178, 3, .ifCond .eq 7, (72, 0, 0), 0)) (by decide +kernel)) hm_z
          rcases hm_z with ⟨b902_z, hm_z⟩ | ⟨b902_z, hm_z⟩
          · replace b902_z : v901_z = (0 : Int32) ∧ v901_z.toInt = (0 : Int32).toInt := b902_z
            replace hm_z := rn_iconst (w := 0) (am_cur_of (i := (185, 1, .iconst 0, (0, 0, 0), 0)) (by decide +kernel)) (by decide) hm_z
            replace hm_z := rn_istore_n (am_cur_of (i := (186, 1, .istore_n 1, (0, 0, 0), 0)) (by decide +kernel)) hm_z
            obtain ⟨_, s903_z, s904_z, g1_z, hm_z⟩ := hm_z
            replace g0_z := s903_z 0 _ (by decide) rfl g0_z
            clear s903_z s904_z
            replace hm_z := rn_iload_n (am_cur_of (i := (187, 1, .iload_n 1, (0, 0, 0), 0)) (by decide +kernel)) g1_z hm_z
            replace hm_z := rn_ifT (am_cur_of (i := (188, 3, .ifCond .eq 114, (139, 0, 0), 0)) (by decide +kernel)) (by decide) hm_z
            replace hm_z := rn_iload_n (am_cur_of (i := (302, 1, .iload_n 1, (0, 0, 0), 0)) (by decide +kernel)) g1_z hm_z
            replace hm_z := rn_ifF (am_cur_of (i := (303, 3, .ifCond .ne 5, (143, 0, 0), 0)) (by decide +kernel)) (by decide) hm_z
            replace hm_z := rn_iconst (w := 0) (am_cur_of (i := (306, 1, .iconst 0, (0, 0, 0), 0)) (by decide +kernel)) (by decide) hm_z
            replace hm_z := rn_iret (am_cur_of (i := (307, 1, .ireturn, (0, 0, 0), 0)) (by decide +kernel)) hm_z
            obtain ⟨e905_z, e906_z⟩ := hm_z
            rw [e906_z]
            exact ⟨z901_z, ⟨by rw [show rg_v h899_z 164 17 = cb from e17_901]; omega, by rw [show rg_v h899_z 164 17 = cb from e17_901]; omega⟩, ⟨by rw [show rg_v h899_z 164 18 = ct from e18_901]; omega, by rw [show rg_v h899_z 164 18 = ct from e18_901]; omega⟩, ⟨by rw [show rg_v h899_z 164 19 = cl from e19_901]; omega, by rw [show rg_v h899_z 164 19 = cl from e19_901]; omega⟩, ⟨by rw [show rg_v h899_z 164 20 = cq from e20_901]; omega, by rw [show rg_v h899_z 164 20 = cq from e20_901]; omega⟩⟩
          · replace b902_z : ¬ v901_z = (0 : Int32) ∧ ¬ v901_z.toInt = (0 : Int32).toInt := b902_z
            replace hm_z := rn_iconst (w := 1) (am_cur_of (i := (181, 1, .iconst 1, (0, 0, 0), 0)) (by decide +kernel)) (by decide) hm_z
            replace hm_z := rn_goto (am_cur_of (i := (182, 3, .goto 4, (73, 0, 0), 0)) (by decide +kernel)) hm_z
            replace hm_z := rn_istore_n (am_cur_of (i := (186, 1, .istore_n 1, (0, 0, 0), 0)) (by decide +kernel)) hm_z
            obtain ⟨_, s907_z, s908_z, g1_z, hm_z⟩ := hm_z
            replace g0_z := s907_z 0 _ (by decide) rfl g0_z
            clear s907_z s908_z
            replace hm_z := rn_iload_n (am_cur_of (i := (187, 1, .iload_n 1, (0, 0, 0), 0)) (by decide +kernel)) g1_z hm_z
            replace hm_z := rn_ifF (am_cur_of (i := (188, 3, .ifCond .eq 114, (139, 0, 0), 0)) (by decide +kernel)) (by decide) hm_z
            replace hm_z := rn_aload_n (am_cur_of (i := (191, 1, .aload_n 0, (0, 0, 0), 0)) (by decide +kernel)) g0_z hm_z
            replace hm_z := rn_getR (x := 168) (am_cur_of (i := (192, 3, .getfield 24, (12, 23, 1407), 0)) (by decide +kernel)) (by decide +kernel) hm_z
            replace hm_z := rn_bipush (w := 11) (am_cur_of (i := (195, 2, .bipush 11, (0, 0, 0), 0)) (by decide +kernel)) (by decide) hm_z
            replace hm_z := rn_aload_n (am_cur_of (i := (197, 1, .aload_n 0, (0, 0, 0), 0)) (by decide +kernel)) g0_z hm_z
            replace hm_z := rn_getI (v := rg_v h899_z 164 11) (am_cur_of (i := (198, 3, .getfield 188, (12, 11, 1395), 0)) (by decide +kernel)) (by decide +kernel) rfl hm_z
            replace hm_z := rn_iastore (N := 12) (q := 11) (am_cur_of (i := (201, 1, .iastore, (0, 0, 0), 0)) (by decide +kernel)) (by decide +kernel) rfl hm_z
            obtain ⟨p909_z, hm_z⟩ := hm_z
            replace hm_z := rn_goto (am_cur_of (i := (202, 3, .goto 100, (139, 0, 0), 0)) (by decide +kernel)) hm_z
            replace hm_z := rn_iload_n (am_cur_of (i := (302, 1, .iload_n 1, (0, 0, 0), 0)) (by decide +kernel)) g1_z hm_z
            replace hm_z := rn_ifT (am_cur_of (i := (303, 3, .ifCond .ne 5, (143, 0, 0), 0)) (by decide +kernel)) (by decide) hm_z
            replace hm_z := rn_aload_n (am_cur_of (i := (308, 1, .aload_n 0, (0, 0, 0), 0)) (by decide +kernel)) g0_z hm_z
            replace hm_z := rn_bipush (w := 59) (am_cur_of (i := (309, 2, .bipush 59, (0, 0, 0), 0)) (by decide +kernel)) (by decide) hm_z
            replace hm_z := rn_callV (M' := am_m171) (o := 164) (ar := [.int 59]) (rest := []) (L := lv_args 0 [.ref 164, .int 59]) (am_cur_of (i := (311, 3, .invokevirtual 194, (171, 1715, 3), 0)) (by decide +kernel)) rfl rfl rfl rfl hm_z
            obtain ⟨r910_z, h911_z, q912_z, hm_z⟩ := hm_z
            obtain ⟨v913_z, rfl⟩ := rn_ret (M := am_m171) rfl (by decide) q912_z
            have K913 := kp_of (a := 171) (by decide) rfl (as := [.ref 164, .int 59]) (ra_Sc (fun _ e => by cases e; rfl) (ra_Sc (ra_Vi) ra_S0)) q912_z
            have z913_z := zM_t (zM_u (o := 168) (k := 11) (by decide) z901_z) K913.1
            have e17_913 : rg_v h911_z 164 17 = cb := (K913.2 17 (by decide)).trans (show rg_v (am_up h899_z 168 11 (.int (rg_v h899_z 164 11))) 164 17 = cb from e17_901)
            have e18_913 : rg_v h911_z 164 18 = ct := (K913.2 18 (by decide)).trans (show rg_v (am_up h899_z 168 11 (.int (rg_v h899_z 164 11))) 164 18 = ct from e18_901)
            have e19_913 : rg_v h911_z 164 19 = cl := (K913.2 19 (by decide)).trans (show rg_v (am_up h899_z 168 11 (.int (rg_v h899_z 164 11))) 164 19 = cl from e19_901)
            have e20_913 : rg_v h911_z 164 20 = cq := (K913.2 20 (by decide)).trans (show rg_v (am_up h899_z 168 11 (.int (rg_v h899_z 164 11))) 164 20 = cq from e20_901)
            replace hm_z : rn _ _ _ _ [.int v913_z] _ _ _ := hm_z
            replace hm_z := rn_if (am_cur_of (i := (314, 3, .ifCond .ne 9, (151, 0, 0), 0)) (by decide +kernel)) hm_z
            rcases hm_z with ⟨b914_z, hm_z⟩ | ⟨b914_z, hm_z⟩
            · replace b914_z : ¬ v913_z = (0 : Int32) ∧ ¬ v913_z.toInt = (0 : Int32).toInt := b914_z
              replace hm_z := rn_aload_n (am_cur_of (i := (323, 1, .aload_n 0, (0, 0, 0), 0)) (by decide +kernel)) g0_z hm_z
              replace hm_z := rn_callV (M' := am_m151) (o := 164) (ar := []) (rest := []) (L := lv_args 0 [.ref 164]) (am_cur_of (i := (324, 3, .invokevirtual 191, (151, 1636, 3), 0)) (by decide +kernel)) rfl rfl rfl rfl hm_z
              obtain ⟨r915_z, h916_z, q917_z, hm_z⟩ := hm_z
              have vo := rn_void rfl q917_z
              subst vo
              have K918 := kp_of (a := 151) (by decide) rfl (as := [.ref 164]) (ra_Sc (fun _ e => by cases e; rfl) ra_S0) q917_z
              have z918_z := zM_t z913_z K918.1
              have e17_918 : rg_v h916_z 164 17 = cb := (K918.2 17 (by decide)).trans e17_913
              have e18_918 : rg_v h916_z 164 18 = ct := (K918.2 18 (by decide)).trans e18_913
              have e19_918 : rg_v h916_z 164 19 = cl := (K918.2 19 (by decide)).trans e19_913
              have e20_918 : rg_v h916_z 164 20 = cq := (K918.2 20 (by decide)).trans e20_913
              replace hm_z : rn _ _ _ _ [] _ _ _ := hm_z
              replace hm_z := rn_iconst (w := 1) (am_cur_of (i := (327, 1, .iconst 1, (0, 0, 0), 0)) (by decide +kernel)) (by decide) hm_z
              replace hm_z := rn_iret (am_cur_of (i := (328, 1, .ireturn, (0, 0, 0), 0)) (by decide +kernel)) hm_z
              obtain ⟨e919_z, e920_z⟩ := hm_z
              rw [e920_z]
              exact ⟨z918_z, ⟨by rw [show rg_v h916_z 164 17 = cb from e17_918]; omega, by rw [show rg_v h916_z 164 17 = cb from e17_918]; omega⟩, ⟨by rw [show rg_v h916_z 164 18 = ct from e18_918]; omega, by rw [show rg_v h916_z 164 18 = ct from e18_918]; omega⟩, ⟨by rw [show rg_v h916_z 164 19 = cl from e19_918]; omega, by rw [show rg_v h916_z 164 19 = cl from e19_918]; omega⟩, ⟨by rw [show rg_v h916_z 164 20 = cq from e20_918]; omega, by rw [show rg_v h916_z 164 20 = cq from e20_918]; omega⟩⟩
            · replace b914_z : v913_z = (0 : Int32) ∧ v913_z.toInt = (0 : Int32).toInt := b914_z
              replace hm_z := rn_aload_n (am_cur_of (i := (317, 1, .aload_n 0, (0, 0, 0), 0)) (by decide +kernel)) g0_z hm_z
              replace hm_z := rn_iconst (w := 1) (am_cur_of (i := (318, 1, .iconst 1, (0, 0, 0), 0)) (by decide +kernel)) (by decide) hm_z
              replace hm_z := rn_callV (M' := am_m158) (o := 164) (ar := [.int 1]) (rest := []) (L := lv_args 0 [.ref 164, .int 1]) (am_cur_of (i := (319, 3, .invokevirtual 181, (158, 1665, 3), 0)) (by decide +kernel)) rfl rfl rfl rfl hm_z
              obtain ⟨r921_z, h922_z, q923_z, hm_z⟩ := hm_z
              obtain ⟨v924_z, rfl⟩ := rn_ret (M := am_m158) rfl (by decide) q923_z
              have K924 := kp_of (a := 158) (by decide) rfl (as := [.ref 164, .int 1]) (ra_Sc (fun _ e => by cases e; rfl) (ra_Sc (ra_Vi) ra_S0)) q923_z
              have z924_z := zM_t z913_z K924.1
              have e17_924 : rg_v h922_z 164 17 = cb := (K924.2 17 (by decide)).trans e17_913
              have e18_924 : rg_v h922_z 164 18 = ct := (K924.2 18 (by decide)).trans e18_913
              have e19_924 : rg_v h922_z 164 19 = cl := (K924.2 19 (by decide)).trans e19_913
              have e20_924 : rg_v h922_z 164 20 = cq := (K924.2 20 (by decide)).trans e20_913
              replace hm_z : rn _ _ _ _ [.int v924_z] _ _ _ := hm_z
              replace hm_z := rn_iret (am_cur_of (i := (322, 1, .ireturn, (0, 0, 0), 0)) (by decide +kernel)) hm_z
              obtain ⟨e925_z, e926_z⟩ := hm_z
              rw [e926_z]
              exact ⟨z924_z, ⟨by rw [show rg_v h922_z 164 17 = cb from e17_924]; omega, by rw [show rg_v h922_z 164 17 = cb from e17_924]; omega⟩, ⟨by rw [show rg_v h922_z 164 18 = ct from e18_924]; omega, by rw [show rg_v h922_z 164 18 = ct from e18_924]; omega⟩, ⟨by rw [show rg_v h922_z 164 19 = cl from e19_924]; omega, by rw [show rg_v h922_z 164 19 = cl from e19_924]; omega⟩, ⟨by rw [show rg_v h922_z 164 20 = cq from e20_924]; omega, by rw [show rg_v h922_z 164 20 = cq from e20_924]; omega⟩⟩
      have hsw : ∀ m, m < 8 → (m = 0 ∨ m = 1 ∨ m = 2 ∨ m = 3 ∨ m = 4 ∨ m = 5 ∨ m = 6 ∨ m = 7 ∨ (#[45, 53, 61, 69, 77, 85, 93, 136] : Array Int)[m]? = some 178) := by decide
      have wv687_z : ¬ (rg_v g 164 9).toInt = 0 := fun q => v687_z (Int32.toInt_inj.mp (q.trans (by decide)))
      have wv714_z : ¬ (rg_v g 164 9).toInt = 1 := fun q => v714_z (Int32.toInt_inj.mp (q.trans (by decide)))
      have wv741_z : ¬ (rg_v g 164 9).toInt = 2 := fun q => v741_z (Int32.toInt_inj.mp (q.trans (by decide)))
      have wv768_z : ¬ (rg_v g 164 9).toInt = 3 := fun q => v768_z (Int32.toInt_inj.mp (q.trans (by decide)))
      have wv795_z : ¬ (rg_v g 164 9).toInt = 4 := fun q => v795_z (Int32.toInt_inj.mp (q.trans (by decide)))
      have wv822_z : ¬ (rg_v g 164 9).toInt = 5 := fun q => v822_z (Int32.toInt_inj.mp (q.trans (by decide)))
      have wv849_z : ¬ (rg_v g 164 9).toInt = 6 := fun q => v849_z (Int32.toInt_inj.mp (q.trans (by decide)))
      have wv888_z : ¬ (rg_v g 164 9).toInt = 7 := fun q => v888_z (Int32.toInt_inj.mp (q.trans (by decide)))
      have hx_z : (rg_v g 164 9).toInt < 0 ∨ 7 < (rg_v g 164 9).toInt ∨ (#[45, 53, 61, 69, 77, 85, 93, 136] : Array Int)[((rg_v g 164 9).toInt - 0).toNat]? = some 178 := by
        by_cases q1_z : (rg_v g 164 9).toInt < 0
        · exact Or.inl q1_z
        · by_cases q2_z : 7 < (rg_v g 164 9).toInt
          · exact Or.inr (Or.inl q2_z)
          · refine Or.inr (Or.inr ?_)
            rcases hsw ((rg_v g 164 9).toInt - 0).toNat (by omega) with qq | qq | qq | qq | qq | qq | qq | qq | qq <;> first | exact qq | (exfalso; omega)
      replace hm_z := rn_swX (a := 83) (am_cur_of (i := (27, 45, .tableswitch 178 0 7 #[45, 53, 61, 69, 77, 85, 93, 136], (0, 0, 0), 0)) (by decide +kernel)) hx_z (by decide +kernel) hm_z
      replace hm_z := rn_aload_n (am_cur_of (i := (205, 1, .aload_n 0, (0, 0, 0), 0)) (by decide +kernel)) g0_z hm_z
      replace hm_z := rn_callV (M' := am_m151) (o := 164) (ar := []) (rest := []) (L := lv_args 0 [.ref 164]) (am_cur_of (i := (206, 3, .invokevirtual 191, (151, 1636, 3), 0)) (by decide +kernel)) rfl rfl rfl rfl hm_z
      obtain ⟨r927_z, h928_z, q929_z, hm_z⟩ := hm_z
      have vo := rn_void rfl q929_z
      subst vo
      have K930 := kp_of (a := 151) (by decide) rfl (as := [.ref 164]) (ra_Sc (fun _ e => by cases e; rfl) ra_S0) q929_z
      have z930_z := zM_t zM_r K930.1
      have e17_930 : rg_v h928_z 164 17 = cb := (K930.2 17 (by decide)).trans ecb
      have e18_930 : rg_v h928_z 164 18 = ct := (K930.2 18 (by decide)).trans ect
      have e19_930 : rg_v h928_z 164 19 = cl := (K930.2 19 (by decide)).trans ecl
      have e20_930 : rg_v h928_z 164 20 = cq := (K930.2 20 (by decide)).trans ecq
      replace hm_z : rn _ _ _ _ [] _ _ _ := hm_z
      replace hm_z := rn_aload_n (am_cur_of (i := (209, 1, .aload_n 0, (0, 0, 0), 0)) (by decide +kernel)) g0_z hm_z
      replace hm_z := rn_getI (v := rg_v h928_z 164 8) (am_cur_of (i := (210, 3, .getfield 157, (12, 8, 1392), 0)) (by decide +kernel)) (by decide +kernel) rfl hm_z
      replace hm_z := rn_iconst (w := 1) (am_cur_of (i := (213, 1, .iconst 1, (0, 0, 0), 0)) (by decide +kernel)) (by decide) hm_z
      replace hm_z := rn_cmp (am_cur_of (i := (214, 3, .if_icmp .ne 21, (97, 0, 0), 0)) (by decide +kernel)) hm_z
      rcases hm_z with ⟨b931_z, hm_z⟩ | ⟨b931_z, hm_z⟩
      · replace b931_z : ¬ (rg_v h928_z 164 8) = (1 : Int32) ∧ ¬ (rg_v h928_z 164 8).toInt = (1 : Int32).toInt := b931_z
        replace hm_z := rn_aload_n (am_cur_of (i := (235, 1, .aload_n 0, (0, 0, 0), 0)) (by decide +kernel)) g0_z hm_z
        replace hm_z := rn_iconst (w := 1) (am_cur_of (i := (236, 1, .iconst 1, (0, 0, 0), 0)) (by decide +kernel)) (by decide) hm_z
        replace hm_z := rn_callV (M' := am_m158) (o := 164) (ar := [.int 1]) (rest := []) (L := lv_args 0 [.ref 164, .int 1]) (am_cur_of (i := (237, 3, .invokevirtual 181, (158, 1665, 3), 0)) (by decide +kernel)) rfl rfl rfl rfl hm_z
        obtain ⟨r932_z, h933_z, q934_z, hm_z⟩ := hm_z
        obtain ⟨v935_z, rfl⟩ := rn_ret (M := am_m158) rfl (by decide) q934_z
        have K935 := kp_of (a := 158) (by decide) rfl (as := [.ref 164, .int 1]) (ra_Sc (fun _ e => by cases e; rfl) (ra_Sc (ra_Vi) ra_S0)) q934_z
        have z935_z := zM_t z930_z K935.1
        have e17_935 : rg_v h933_z 164 17 = cb := (K935.2 17 (by decide)).trans e17_930
        have e18_935 : rg_v h933_z 164 18 = ct := (K935.2 18 (by decide)).trans e18_930
        have e19_935 : rg_v h933_z 164 19 = cl := (K935.2 19 (by decide)).trans e19_930
        have e20_935 : rg_v h933_z 164 20 = cq := (K935.2 20 (by decide)).trans e20_930
        replace hm_z : rn _ _ _ _ [.int v935_z] _ _ _ := hm_z
        replace hm_z := rn_iret (am_cur_of (i := (240, 1, .ireturn, (0, 0, 0), 0)) (by decide +kernel)) hm_z
        obtain ⟨e936_z, e937_z⟩ := hm_z
        rw [e937_z]
        exact ⟨z935_z, ⟨by rw [show rg_v h933_z 164 17 = cb from e17_935]; omega, by rw [show rg_v h933_z 164 17 = cb from e17_935]; omega⟩, ⟨by rw [show rg_v h933_z 164 18 = ct from e18_935]; omega, by rw [show rg_v h933_z 164 18 = ct from e18_935]; omega⟩, ⟨by rw [show rg_v h933_z 164 19 = cl from e19_935]; omega, by rw [show rg_v h933_z 164 19 = cl from e19_935]; omega⟩, ⟨by rw [show rg_v h933_z 164 20 = cq from e20_935]; omega, by rw [show rg_v h933_z 164 20 = cq from e20_935]; omega⟩⟩
      · replace b931_z : (rg_v h928_z 164 8) = (1 : Int32) ∧ (rg_v h928_z 164 8).toInt = (1 : Int32).toInt := b931_z
        replace hm_z := rn_aload_n (am_cur_of (i := (217, 1, .aload_n 0, (0, 0, 0), 0)) (by decide +kernel)) g0_z hm_z
        replace hm_z := rn_getI (v := rg_v h928_z 164 9) (am_cur_of (i := (218, 3, .getfield 168, (12, 9, 1393), 0)) (by decide +kernel)) (by decide +kernel) rfl hm_z
        replace hm_z := rn_bipush (w := 9) (am_cur_of (i := (221, 2, .bipush 9, (0, 0, 0), 0)) (by decide +kernel)) (by decide) hm_z
        replace hm_z := rn_cmp (am_cur_of (i := (223, 3, .if_icmp .lt 12, (97, 0, 0), 0)) (by decide +kernel)) hm_z
        rcases hm_z with ⟨b938_z, hm_z⟩ | ⟨b938_z, hm_z⟩
        · replace b938_z : (rg_v h928_z 164 9).toInt < (9 : Int32).toInt := b938_z
          replace hm_z := rn_aload_n (am_cur_of (i := (235, 1, .aload_n 0, (0, 0, 0), 0)) (by decide +kernel)) g0_z hm_z
          replace hm_z := rn_iconst (w := 1) (am_cur_of (i := (236, 1, .iconst 1, (0, 0, 0), 0)) (by decide +kernel)) (by decide) hm_z
          replace hm_z := rn_callV (M' := am_m158) (o := 164) (ar := [.int 1]) (rest := []) (L := lv_args 0 [.ref 164, .int 1]) (am_cur_of (i := (237, 3, .invokevirtual 181, (158, 1665, 3), 0)) (by decide +kernel)) rfl rfl rfl rfl hm_z
          obtain ⟨r939_z, h940_z, q941_z, hm_z⟩ := hm_z
          obtain ⟨v942_z, rfl⟩ := rn_ret (M := am_m158) rfl (by decide) q941_z
          have K942 := kp_of (a := 158) (by decide) rfl (as := [.ref 164, .int 1]) (ra_Sc (fun _ e => by cases e; rfl) (ra_Sc (ra_Vi) ra_S0)) q941_z
          have z942_z := zM_t z930_z K942.1
          have e17_942 : rg_v h940_z 164 17 = cb := (K942.2 17 (by decide)).trans e17_930
          have e18_942 : rg_v h940_z 164 18 = ct := (K942.2 18 (by decide)).trans e18_930
          have e19_942 : rg_v h940_z 164 19 = cl := (K942.2 19 (by decide)).trans e19_930
          have e20_942 : rg_v h940_z 164 20 = cq := (K942.2 20 (by decide)).trans e20_930
          replace hm_z : rn _ _ _ _ [.int v942_z] _ _ _ := hm_z
          replace hm_z := rn_iret (am_cur_of (i := (240, 1, .ireturn, (0, 0, 0), 0)) (by decide +kernel)) hm_z
          obtain ⟨e943_z, e944_z⟩ := hm_z
          rw [e944_z]
          exact ⟨z942_z, ⟨by rw [show rg_v h940_z 164 17 = cb from e17_942]; omega, by rw [show rg_v h940_z 164 17 = cb from e17_942]; omega⟩, ⟨by rw [show rg_v h940_z 164 18 = ct from e18_942]; omega, by rw [show rg_v h940_z 164 18 = ct from e18_942]; omega⟩, ⟨by rw [show rg_v h940_z 164 19 = cl from e19_942]; omega, by rw [show rg_v h940_z 164 19 = cl from e19_942]; omega⟩, ⟨by rw [show rg_v h940_z 164 20 = cq from e20_942]; omega, by rw [show rg_v h940_z 164 20 = cq from e20_942]; omega⟩⟩
        · replace b938_z : (9 : Int32).toInt ≤ (rg_v h928_z 164 9).toInt := b938_z
          replace hm_z := rn_aload_n (am_cur_of (i := (226, 1, .aload_n 0, (0, 0, 0), 0)) (by decide +kernel)) g0_z hm_z
          replace hm_z := rn_getI (v := rg_v h928_z 164 9) (am_cur_of (i := (227, 3, .getfield 168, (12, 9, 1393), 0)) (by decide +kernel)) (by decide +kernel) rfl hm_z
          replace hm_z := rn_bipush (w := 11) (am_cur_of (i := (230, 2, .bipush 11, (0, 0, 0), 0)) (by decide +kernel)) (by decide) hm_z
          replace hm_z := rn_cmp (am_cur_of (i := (232, 3, .if_icmp .le 9, (101, 0, 0), 0)) (by decide +kernel)) hm_z
          rcases hm_z with ⟨b945_z, hm_z⟩ | ⟨b945_z, hm_z⟩
          · replace b945_z : (rg_v h928_z 164 9).toInt ≤ (11 : Int32).toInt := b945_z
            replace hm_z := rn_iconst (w := 3) (am_cur_of (i := (241, 1, .iconst 3, (0, 0, 0), 0)) (by decide +kernel)) (by decide) hm_z
            replace hm_z := rn_aload_n (am_cur_of (i := (242, 1, .aload_n 0, (0, 0, 0), 0)) (by decide +kernel)) g0_z hm_z
            replace hm_z := rn_getI (v := rg_v h928_z 164 9) (am_cur_of (i := (243, 3, .getfield 168, (12, 9, 1393), 0)) (by decide +kernel)) (by decide +kernel) rfl hm_z
            replace hm_z := rn_iadd (w := (3 : Int32) + (rg_v h928_z 164 9)) (am_cur_of (i := (246, 1, .iadd, (0, 0, 0), 0)) (by decide +kernel)) rfl hm_z
            replace hm_z := rn_bipush (w := 9) (am_cur_of (i := (247, 2, .bipush 9, (0, 0, 0), 0)) (by decide +kernel)) (by decide) hm_z
            replace hm_z := rn_isub (w := ((3 : Int32) + (rg_v h928_z 164 9)) - 9) (am_cur_of (i := (249, 1, .isub, (0, 0, 0), 0)) (by decide +kernel)) rfl hm_z
            replace hm_z := rn_istore_n (am_cur_of (i := (250, 1, .istore_n 2, (0, 0, 0), 0)) (by decide +kernel)) hm_z
            obtain ⟨_, s946_z, s947_z, g2_z, hm_z⟩ := hm_z
            replace g0_z := s946_z 0 _ (by decide) rfl g0_z
            clear s946_z s947_z
            replace hm_z := rn_aload_n (am_cur_of (i := (251, 1, .aload_n 0, (0, 0, 0), 0)) (by decide +kernel)) g0_z hm_z
            replace hm_z := rn_getR (x := 178) (am_cur_of (i := (252, 3, .getfield 54, (12, 33, 1417), 0)) (by decide +kernel)) (by decide +kernel) hm_z
            replace hm_z := rn_iload_n (am_cur_of (i := (255, 1, .iload_n 2, (0, 0, 0), 0)) (by decide +kernel)) g2_z hm_z
            replace hm_z := rn_baload (N := 6) (q := (((3 : Int32) + (rg_v h928_z 164 9)) - 9).toNatClampNeg) (v := rg_v h928_z 178 ((((3 : Int32) + (rg_v h928_z 164 9)) - 9).toNatClampNeg)) (am_cur_of (i := (256, 1, .baload, (0, 0, 0), 0)) (by decide +kernel)) (by decide +kernel) rfl rfl hm_z
            obtain ⟨p948_z, hm_z⟩ := hm_z
            replace hm_z := rn_if (am_cur_of (i := (257, 3, .ifCond .eq 9, (117, 0, 0), 0)) (by decide +kernel)) hm_z
            rcases hm_z with ⟨b949_z, hm_z⟩ | ⟨b949_z, hm_z⟩
            · replace b949_z : (rg_v h928_z 178 ((((3 : Int32) + (rg_v h928_z 164 9)) - 9).toNatClampNeg)) = (0 : Int32) ∧ (rg_v h928_z 178 ((((3 : Int32) + (rg_v h928_z 164 9)) - 9).toNatClampNeg)).toInt = (0 : Int32).toInt := b949_z
              replace hm_z := rn_aload_n (am_cur_of (i := (266, 1, .aload_n 0, (0, 0, 0), 0)) (by decide +kernel)) g0_z hm_z
              replace hm_z := rn_getR (x := 178) (am_cur_of (i := (267, 3, .getfield 54, (12, 33, 1417), 0)) (by decide +kernel)) (by decide +kernel) hm_z
              replace hm_z := rn_iload_n (am_cur_of (i := (270, 1, .iload_n 2, (0, 0, 0), 0)) (by decide +kernel)) g2_z hm_z
              replace hm_z := rn_iconst (w := 1) (am_cur_of (i := (271, 1, .iconst 1, (0, 0, 0), 0)) (by decide +kernel)) (by decide) hm_z
              replace hm_z := rn_bastore (N := 6) (q := (((3 : Int32) + (rg_v h928_z 164 9)) - 9).toNatClampNeg) (am_cur_of (i := (272, 1, .bastore, (0, 0, 0), 0)) (by decide +kernel)) (by decide +kernel) rfl hm_z
              obtain ⟨p950_z, hm_z⟩ := hm_z
              replace hm_z := rn_aload_n (am_cur_of (i := (273, 1, .aload_n 0, (0, 0, 0), 0)) (by decide +kernel)) g0_z hm_z
              replace hm_z := rn_callV (M' := am_m151) (o := 164) (ar := []) (rest := []) (L := lv_args 0 [.ref 164]) (am_cur_of (i := (274, 3, .invokevirtual 191, (151, 1636, 3), 0)) (by decide +kernel)) rfl rfl rfl rfl hm_z
              obtain ⟨r951_z, h952_z, q953_z, hm_z⟩ := hm_z
              have vo := rn_void rfl q953_z
              subst vo
              have K954 := kp_of (a := 151) (by decide) rfl (as := [.ref 164]) (ra_Sc (fun _ e => by cases e; rfl) ra_S0) q953_z
              have z954_z := zM_t (zM_u (o := 178) (k := (((3 : Int32) + (rg_v h928_z 164 9)) - 9).toNatClampNeg) rfl z930_z) K954.1
              have e17_954 : rg_v h952_z 164 17 = cb := (K954.2 17 (by decide)).trans (show rg_v (am_up h928_z 178 ((((3 : Int32) + (rg_v h928_z 164 9)) - 9).toNatClampNeg) (.int 1)) 164 17 = cb from e17_930)
              have e18_954 : rg_v h952_z 164 18 = ct := (K954.2 18 (by decide)).trans (show rg_v (am_up h928_z 178 ((((3 : Int32) + (rg_v h928_z 164 9)) - 9).toNatClampNeg) (.int 1)) 164 18 = ct from e18_930)
              have e19_954 : rg_v h952_z 164 19 = cl := (K954.2 19 (by decide)).trans (show rg_v (am_up h928_z 178 ((((3 : Int32) + (rg_v h928_z 164 9)) - 9).toNatClampNeg) (.int 1)) 164 19 = cl from e19_930)
              have e20_954 : rg_v h952_z 164 20 = cq := (K954.2 20 (by decide)).trans (show rg_v (am_up h928_z 178 ((((3 : Int32) + (rg_v h928_z 164 9)) - 9).toNatClampNeg) (.int 1)) 164 20 = cq from e20_930)
              replace hm_z : rn _ _ _ _ [] _ _ _ := hm_z
              replace hm_z := rn_aload_n (am_cur_of (i := (277, 1, .aload_n 0, (0, 0, 0), 0)) (by decide +kernel)) g0_z hm_z
              replace hm_z := rn_getR (x := 179) (am_cur_of (i := (278, 3, .getfield 57, (12, 34, 1418), 0)) (by decide +kernel)) (by decide +kernel) hm_z
              replace hm_z := rn_iload_n (am_cur_of (i := (281, 1, .iload_n 2, (0, 0, 0), 0)) (by decide +kernel)) g2_z hm_z
              replace hm_z := rn_aload_n (am_cur_of (i := (282, 1, .aload_n 0, (0, 0, 0), 0)) (by decide +kernel)) g0_z hm_z
              replace hm_z := rn_getI (v := rg_v h952_z 164 21) (am_cur_of (i := (283, 3, .getfield 213, (12, 21, 1405), 0)) (by decide +kernel)) (by decide +kernel) rfl hm_z
              replace hm_z := rn_iastore (N := 6) (q := (((3 : Int32) + (rg_v h928_z 164 9)) - 9).toNatClampNeg) (am_cur_of (i := (286, 1, .iastore, (0, 0, 0), 0)) (by decide +kernel)) (by decide +kernel) rfl hm_z
              obtain ⟨p955_z, hm_z⟩ := hm_z
              replace hm_z := rn_aload_n (am_cur_of (i := (287, 1, .aload_n 0, (0, 0, 0), 0)) (by decide +kernel)) g0_z hm_z
              replace hm_z := rn_callV (M' := am_m170) (o := 164) (ar := []) (rest := []) (L := lv_args 0 [.ref 164]) (am_cur_of (i := (288, 3, .invokevirtual 271, (170, 1711, 3), 0)) (by decide +kernel)) rfl rfl rfl rfl hm_z
              obtain ⟨r956_z, h957_z, q958_z, hm_z⟩ := hm_z
              obtain ⟨v959_z, rfl⟩ := rn_ret (M := am_m170) rfl (by decide) q958_z
              have K959 := kp_of (a := 170) (by decide) rfl (as := [.ref 164]) (ra_Sc (fun _ e => by cases e; rfl) ra_S0) q958_z
              have z959_z := zM_t (zM_u (o := 179) (k := (((3 : Int32) + (rg_v h928_z 164 9)) - 9).toNatClampNeg) rfl z954_z) K959.1
              have e17_959 : rg_v h957_z 164 17 = cb := (K959.2 17 (by decide)).trans (show rg_v (am_up h952_z 179 ((((3 : Int32) + (rg_v h928_z 164 9)) - 9).toNatClampNeg) (.int (rg_v h952_z 164 21))) 164 17 = cb from e17_954)
              have e18_959 : rg_v h957_z 164 18 = ct := (K959.2 18 (by decide)).trans (show rg_v (am_up h952_z 179 ((((3 : Int32) + (rg_v h928_z 164 9)) - 9).toNatClampNeg) (.int (rg_v h952_z 164 21))) 164 18 = ct from e18_954)
              have e19_959 : rg_v h957_z 164 19 = cl := (K959.2 19 (by decide)).trans (show rg_v (am_up h952_z 179 ((((3 : Int32) + (rg_v h928_z 164 9)) - 9).toNatClampNeg) (.int (rg_v h952_z 164 21))) 164 19 = cl from e19_954)
              have e20_959 : rg_v h957_z 164 20 = cq := (K959.2 20 (by decide)).trans (show rg_v (am_up h952_z 179 ((((3 : Int32) + (rg_v h928_z 164 9)) - 9).toNatClampNeg) (.int (rg_v h952_z 164 21))) 164 20 = cq from e20_954)
              replace hm_z : rn _ _ _ _ [.int v959_z] _ _ _ := hm_z
              replace hm_z := rn_istore_n (am_cur_of (i := (291, 1, .istore_n 1, (0, 0, 0), 0)) (by decide +kernel)) hm_z
              obtain ⟨_, s960_z, s961_z, g1_z, hm_z⟩ := hm_z
              replace g0_z := s960_z 0 _ (by decide) rfl g0_z
              replace g2_z := s960_z 2 _ (by decide) rfl g2_z
              clear s960_z s961_z
              replace hm_z := rn_aload_n (am_cur_of (i := (292, 1, .aload_n 0, (0, 0, 0), 0)) (by decide +kernel)) g0_z hm_z
              replace hm_z := rn_getR (x := 180) (am_cur_of (i := (293, 3, .getfield 60, (12, 35, 1419), 0)) (by decide +kernel)) (by decide +kernel) hm_z
              replace hm_z := rn_iload_n (am_cur_of (i := (296, 1, .iload_n 2, (0, 0, 0), 0)) (by decide +kernel)) g2_z hm_z
              replace hm_z := rn_aload_n (am_cur_of (i := (297, 1, .aload_n 0, (0, 0, 0), 0)) (by decide +kernel)) g0_z hm_z
              replace hm_z := rn_getI (v := rg_v h957_z 164 21) (am_cur_of (i := (298, 3, .getfield 213, (12, 21, 1405), 0)) (by decide +kernel)) (by decide +kernel) rfl hm_z
              replace hm_z := rn_iastore (N := 6) (q := (((3 : Int32) + (rg_v h928_z 164 9)) - 9).toNatClampNeg) (am_cur_of (i := (301, 1, .iastore, (0, 0, 0), 0)) (by decide +kernel)) (by decide +kernel) rfl hm_z
              obtain ⟨p962_z, hm_z⟩ := hm_z
              replace hm_z := rn_iload_n (am_cur_of (i := (302, 1, .iload_n 1, (0, 0, 0), 0)) (by decide +kernel)) g1_z hm_z
              replace hm_z := rn_if (am_cur_of (i := (303, 3, .ifCond .ne 5, (143, 0, 0), 0)) (by decide +kernel)) hm_z
              rcases hm_z with ⟨b963_z, hm_z⟩ | ⟨b963_z, hm_z⟩
              · replace b963_z : ¬ v959_z = (0 : Int32) ∧ ¬ v959_z.toInt = (0 : Int32).toInt := b963_z
                replace hm_z := rn_aload_n (am_cur_of (i := (308, 1, .aload_n 0, (0, 0, 0), 0)) (by decide +kernel)) g0_z hm_z
                replace hm_z := rn_bipush (w := 59) (am_cur_of (i := (309, 2, .bipush 59, (0, 0, 0), 0)) (by decide +kernel)) (by decide) hm_z
                replace hm_z := rn_callV (M' := am_m171) (o := 164) (ar := [.int 59]) (rest := []) (L := lv_args 0 [.ref 164, .int 59]) (am_cur_of (i := (311, 3, .invokevirtual 194, (171, 1715, 3), 0)) (by decide +kernel)) rfl rfl rfl rfl hm_z
                obtain ⟨r964_z, h965_z, q966_z, hm_z⟩ := hm_z
                obtain ⟨v967_z, rfl⟩ := rn_ret (M := am_m171) rfl (by decide) q966_z
                have K967 := kp_of (a := 171) (by decide) rfl (as := [.ref 164, .int 59]) (ra_Sc (fun _ e => by cases e; rfl) (ra_Sc (ra_Vi) ra_S0)) q966_z
                have z967_z := zM_t (zM_u (o := 180) (k := (((3 : Int32) + (rg_v h928_z 164 9)) - 9).toNatClampNeg) rfl z959_z) K967.1
                have e17_967 : rg_v h965_z 164 17 = cb := (K967.2 17 (by decide)).trans (show rg_v (am_up h957_z 180 ((((3 : Int32) + (rg_v h928_z 164 9)) - 9).toNatClampNeg) (.int (rg_v h957_z 164 21))) 164 17 = cb from e17_959)
                have e18_967 : rg_v h965_z 164 18 = ct := (K967.2 18 (by decide)).trans (show rg_v (am_up h957_z 180 ((((3 : Int32) + (rg_v h928_z 164 9)) - 9).toNatClampNeg) (.int (rg_v h957_z 164 21))) 164 18 = ct from e18_959)
                have e19_967 : rg_v h965_z 164 19 = cl := (K967.2 19 (by decide)).trans (show rg_v (am_up h957_z 180 ((((3 : Int32) + (rg_v h928_z 164 9)) - 9).toNatClampNeg) (.int (rg_v h957_z 164 21))) 164 19 = cl from e19_959)
                have e20_967 : rg_v h965_z 164 20 = cq := (K967.2 20 (by decide)).trans (show rg_v (am_up h957_z 180 ((((3 : Int32) + (rg_v h928_z 164 9)) - 9).toNatClampNeg) (.int (rg_v h957_z 164 21))) 164 20 = cq from e20_959)
                replace hm_z : rn _ _ _ _ [.int v967_z] _ _ _ := hm_z
                replace hm_z := rn_if (am_cur_of (i := (314, 3, .ifCond .ne 9, (151, 0, 0), 0)) (by decide +kernel)) hm_z
                rcases hm_z with ⟨b968_z, hm_z⟩ | ⟨b968_z, hm_z⟩
                · replace b968_z : ¬ v967_z = (0 : Int32) ∧ ¬ v967_z.toInt = (0 : Int32).toInt := b968_z
                  replace hm_z := rn_aload_n (am_cur_of (i := (323, 1, .aload_n 0, (0, 0, 0), 0)) (by decide +kernel)) g0_z hm_z
                  replace hm_z := rn_callV (M' := am_m151) (o := 164) (ar := []) (rest := []) (L := lv_args 0 [.ref 164]) (am_cur_of (i := (324, 3, .invokevirtual 191, (151, 1636, 3), 0)) (by decide +kernel)) rfl rfl rfl rfl hm_z
                  obtain ⟨r969_z, h970_z, q971_z, hm_z⟩ := hm_z
                  have vo := rn_void rfl q971_z
                  subst vo
                  have K972 := kp_of (a := 151) (by decide) rfl (as := [.ref 164]) (ra_Sc (fun _ e => by cases e; rfl) ra_S0) q971_z
                  have z972_z := zM_t z967_z K972.1
                  have e17_972 : rg_v h970_z 164 17 = cb := (K972.2 17 (by decide)).trans e17_967
                  have e18_972 : rg_v h970_z 164 18 = ct := (K972.2 18 (by decide)).trans e18_967
                  have e19_972 : rg_v h970_z 164 19 = cl := (K972.2 19 (by decide)).trans e19_967
                  have e20_972 : rg_v h970_z 164 20 = cq := (K972.2 20 (by decide)).trans e20_967
                  replace hm_z : rn _ _ _ _ [] _ _ _ := hm_z
                  replace hm_z := rn_iconst (w := 1) (am_cur_of (i := (327, 1, .iconst 1, (0, 0, 0), 0)) (by decide +kernel)) (by decide) hm_z
                  replace hm_z := rn_iret (am_cur_of (i := (328, 1, .ireturn, (0, 0, 0), 0)) (by decide +kernel)) hm_z
                  obtain ⟨e973_z, e974_z⟩ := hm_z
                  rw [e974_z]
                  exact ⟨z972_z, ⟨by rw [show rg_v h970_z 164 17 = cb from e17_972]; omega, by rw [show rg_v h970_z 164 17 = cb from e17_972]; omega⟩, ⟨by rw [show rg_v h970_z 164 18 = ct from e18_972]; omega, by rw [show rg_v h970_z 164 18 = ct from e18_972]; omega⟩, ⟨by rw [show rg_v h970_z 164 19 = cl from e19_972]; omega, by rw [show rg_v h970_z 164 19 = cl from e19_972]; omega⟩, ⟨by rw [show rg_v h970_z 164 20 = cq from e20_972]; omega, by rw [show rg_v h970_z 164 20 = cq from e20_972]; omega⟩⟩
                · replace b968_z : v967_z = (0 : Int32) ∧ v967_z.toInt = (0 : Int32).toInt := b968_z
                  replace hm_z := rn_aload_n (am_cur_of (i := (317, 1, .aload_n 0, (0, 0, 0), 0)) (by decide +kernel)) g0_z hm_z
                  replace hm_z := rn_iconst (w := 1) (am_cur_of (i := (318, 1, .iconst 1, (0, 0, 0), 0)) (by decide +kernel)) (by decide) hm_z
                  replace hm_z := rn_callV (M' := am_m158) (o := 164) (ar := [.int 1]) (rest := []) (L := lv_args 0 [.ref 164, .int 1]) (am_cur_of (i := (319, 3, .invokevirtual 181, (158, 1665, 3), 0)) (by decide +kernel)) rfl rfl rfl rfl hm_z
                  obtain ⟨r975_z, h976_z, q977_z, hm_z⟩ := hm_z
                  obtain ⟨v978_z, rfl⟩ := rn_ret (M := am_m158) rfl (by decide) q977_z
                  have K978 := kp_of (a := 158) (by decide) rfl (as := [.ref 164, .int 1]) (ra_Sc (fun _ e => by cases e; rfl) (ra_Sc (ra_Vi) ra_S0)) q977_z
                  have z978_z := zM_t z967_z K978.1
                  have e17_978 : rg_v h976_z 164 17 = cb := (K978.2 17 (by decide)).trans e17_967
                  have e18_978 : rg_v h976_z 164 18 = ct := (K978.2 18 (by decide)).trans e18_967
                  have e19_978 : rg_v h976_z 164 19 = cl := (K978.2 19 (by decide)).trans e19_967
                  have e20_978 : rg_v h976_z 164 20 = cq := (K978.2 20 (by decide)).trans e20_967
                  replace hm_z : rn _ _ _ _ [.int v978_z] _ _ _ := hm_z
                  replace hm_z := rn_iret (am_cur_of (i := (322, 1, .ireturn, (0, 0, 0), 0)) (by decide +kernel)) hm_z
                  obtain ⟨e979_z, e980_z⟩ := hm_z
                  rw [e980_z]
                  exact ⟨z978_z, ⟨by rw [show rg_v h976_z 164 17 = cb from e17_978]; omega, by rw [show rg_v h976_z 164 17 = cb from e17_978]; omega⟩, ⟨by rw [show rg_v h976_z 164 18 = ct from e18_978]; omega, by rw [show rg_v h976_z 164 18 = ct from e18_978]; omega⟩, ⟨by rw [show rg_v h976_z 164 19 = cl from e19_978]; omega, by rw [show rg_v h976_z 164 19 = cl from e19_978]; omega⟩, ⟨by rw [show rg_v h976_z 164 20 = cq from e20_978]; omega, by rw [show rg_v h976_z 164 20 = cq from e20_978]; omega⟩⟩
              · replace b963_z : v959_z = (0 : Int32) ∧ v959_z.toInt = (0 : Int32).toInt := b963_z
                replace hm_z := rn_iconst (w := 0) (am_cur_of (i := (306, 1, .iconst 0, (0, 0, 0), 0)) (by decide +kernel)) (by decide) hm_z
                replace hm_z := rn_iret (am_cur_of (i := (307, 1, .ireturn, (0, 0, 0), 0)) (by decide +kernel)) hm_z
                obtain ⟨e981_z, e982_z⟩ := hm_z
                rw [e982_z]
                exact ⟨(zM_u (o := 180) (k := (((3 : Int32) + (rg_v h928_z 164 9)) - 9).toNatClampNeg) rfl z959_z), ⟨by rw [show rg_v (am_up h957_z 180 ((((3 : Int32) + (rg_v h928_z 164 9)) - 9).toNatClampNeg) (.int (rg_v h957_z 164 21))) 164 17 = cb from (show rg_v (am_up h957_z 180 ((((3 : Int32) + (rg_v h928_z 164 9)) - 9).toNatClampNeg) (.int (rg_v h957_z 164 21))) 164 17 = cb from e17_959)]; omega, by rw [show rg_v (am_up h957_z 180 ((((3 : Int32) + (rg_v h928_z 164 9)) - 9).toNatClampNeg) (.int (rg_v h957_z 164 21))) 164 17 = cb from (show rg_v (am_up h957_z 180 ((((3 : Int32) + (rg_v h928_z 164 9)) - 9).toNatClampNeg) (.int (rg_v h957_z 164 21))) 164 17 = cb from e17_959)]; omega⟩, ⟨by rw [show rg_v (am_up h957_z 180 ((((3 : Int32) + (rg_v h928_z 164 9)) - 9).toNatClampNeg) (.int (rg_v h957_z 164 21))) 164 18 = ct from (show rg_v (am_up h957_z 180 ((((3 : Int32) + (rg_v h928_z 164 9)) - 9).toNatClampNeg) (.int (rg_v h957_z 164 21))) 164 18 = ct from e18_959)]; omega, by rw [show rg_v (am_up h957_z 180 ((((3 : Int32) + (rg_v h928_z 164 9)) - 9).toNatClampNeg) (.int (rg_v h957_z 164 21))) 164 18 = ct from (show rg_v (am_up h957_z 180 ((((3 : Int32) + (rg_v h928_z 164 9)) - 9).toNatClampNeg) (.int (rg_v h957_z 164 21))) 164 18 = ct from e18_959)]; omega⟩, ⟨by rw [show rg_v (am_up h957_z 180 ((((3 : Int32) + (rg_v h928_z 164 9)) - 9).toNatClampNeg) (.int (rg_v h957_z 164 21))) 164 19 = cl from (show rg_v (am_up h957_z 180 ((((3 : Int32) + (rg_v h928_z 164 9)) - 9).toNatClampNeg) (.int (rg_v h957_z 164 21))) 164 19 = cl from e19_959)]; omega, by rw [show rg_v (am_up h957_z 180 ((((3 : Int32) + (rg_v h928_z 164 9)) - 9).toNatClampNeg) (.int (rg_v h957_z 164 21))) 164 19 = cl from (show rg_v (am_up h957_z 180 ((((3 : Int32) + (rg_v h928_z 164 9)) - 9).toNatClampNeg) (.int (rg_v h957_z 164 21))) 164 19 = cl from e19_959)]; omega⟩, ⟨by rw [show rg_v (am_up h957_z 180 ((((3 : Int32) + (rg_v h928_z 164 9)) - 9).toNatClampNeg) (.int (rg_v h957_z 164 21))) 164 20 = cq from (show rg_v (am_up h957_z 180 ((((3 : Int32) + (rg_v h928_z 164 9)) - 9).toNatClampNeg) (.int (rg_v h957_z 164 21))) 164 20 = cq from e20_959)]; omega, by rw [show rg_v (am_up h957_z 180 ((((3 : Int32) + (rg_v h928_z 164 9)) - 9).toNatClampNeg) (.int (rg_v h957_z 164 21))) 164 20 = cq from (show rg_v (am_up h957_z 180 ((((3 : Int32) + (rg_v h928_z 164 9)) - 9).toNatClampNeg) (.int (rg_v h957_z 164 21))) 164 20 = cq from e20_959)]; omega⟩⟩
            · replace b949_z : ¬ (rg_v h928_z 178 ((((3 : Int32) + (rg_v h928_z 164 9)) - 9).toNatClampNeg)) = (0 : Int32) ∧ ¬ (rg_v h928_z 178 ((((3 : Int32) + (rg_v h928_z 164 9)) - 9).toNatClampNeg)).toInt = (0 : Int32).toInt := b949_z
              replace hm_z := rn_aload_n (am_cur_of (i := (260, 1, .aload_n 0, (0, 0, 0), 0)) (by decide +kernel)) g0_z hm_z
              replace hm_z := rn_iconst (w := 3) (am_cur_of (i := (261, 1, .iconst 3, (0, 0, 0), 0)) (by decide +kernel)) (by decide) hm_z
              replace hm_z := rn_callV (M' := am_m158) (o := 164) (ar := [.int 3]) (rest := []) (L := lv_args 0 [.ref 164, .int 3]) (am_cur_of (i := (262, 3, .invokevirtual 181, (158, 1665, 3), 0)) (by decide +kernel)) rfl rfl rfl rfl hm_z
              obtain ⟨r983_z, h984_z, q985_z, hm_z⟩ := hm_z
              obtain ⟨v986_z, rfl⟩ := rn_ret (M := am_m158) rfl (by decide) q985_z
              have K986 := kp_of (a := 158) (by decide) rfl (as := [.ref 164, .int 3]) (ra_Sc (fun _ e => by cases e; rfl) (ra_Sc (ra_Vi) ra_S0)) q985_z
              have z986_z := zM_t z930_z K986.1
              have e17_986 : rg_v h984_z 164 17 = cb := (K986.2 17 (by decide)).trans e17_930
              have e18_986 : rg_v h984_z 164 18 = ct := (K986.2 18 (by decide)).trans e18_930
              have e19_986 : rg_v h984_z 164 19 = cl := (K986.2 19 (by decide)).trans e19_930
              have e20_986 : rg_v h984_z 164 20 = cq := (K986.2 20 (by decide)).trans e20_930
              replace hm_z : rn _ _ _ _ [.int v986_z] _ _ _ := hm_z
              replace hm_z := rn_iret (am_cur_of (i := (265, 1, .ireturn, (0, 0, 0), 0)) (by decide +kernel)) hm_z
              obtain ⟨e987_z, e988_z⟩ := hm_z
              rw [e988_z]
              exact ⟨z986_z, ⟨by rw [show rg_v h984_z 164 17 = cb from e17_986]; omega, by rw [show rg_v h984_z 164 17 = cb from e17_986]; omega⟩, ⟨by rw [show rg_v h984_z 164 18 = ct from e18_986]; omega, by rw [show rg_v h984_z 164 18 = ct from e18_986]; omega⟩, ⟨by rw [show rg_v h984_z 164 19 = cl from e19_986]; omega, by rw [show rg_v h984_z 164 19 = cl from e19_986]; omega⟩, ⟨by rw [show rg_v h984_z 164 20 = cq from e20_986]; omega, by rw [show rg_v h984_z 164 20 = cq from e20_986]; omega⟩⟩
          · replace b945_z : (11 : Int32).toInt < (rg_v h928_z 164 9).toInt := b945_z
            replace hm_z := rn_aload_n (am_cur_of (i := (235, 1, .aload_n 0, (0, 0, 0), 0)) (by decide +kernel)) g0_z hm_z
            replace hm_z := rn_iconst (w := 1) (am_cur_of (i := (236, 1, .iconst 1, (0, 0, 0), 0)) (by decide +kernel)) (by decide) hm_z
            replace hm_z := rn_callV (M' := am_m158) (o := 164) (ar := [.int 1]) (rest := []) (L := lv_args 0 [.ref 164, .int 1]) (am_cur_of (i := (237, 3, .invokevirtual 181, (158, 1665, 3), 0)) (by decide +kernel)) rfl rfl rfl rfl hm_z
            obtain ⟨r989_z, h990_z, q991_z, hm_z⟩ := hm_z
            obtain ⟨v992_z, rfl⟩ := rn_ret (M := am_m158) rfl (by decide) q991_z
            have K992 := kp_of (a := 158) (by decide) rfl (as := [.ref 164, .int 1]) (ra_Sc (fun _ e => by cases e; rfl) (ra_Sc (ra_Vi) ra_S0)) q991_z
            have z992_z := zM_t z930_z K992.1
            have e17_992 : rg_v h990_z 164 17 = cb := (K992.2 17 (by decide)).trans e17_930
            have e18_992 : rg_v h990_z 164 18 = ct := (K992.2 18 (by decide)).trans e18_930
            have e19_992 : rg_v h990_z 164 19 = cl := (K992.2 19 (by decide)).trans e19_930
            have e20_992 : rg_v h990_z 164 20 = cq := (K992.2 20 (by decide)).trans e20_930
            replace hm_z : rn _ _ _ _ [.int v992_z] _ _ _ := hm_z
            replace hm_z := rn_iret (am_cur_of (i := (240, 1, .ireturn, (0, 0, 0), 0)) (by decide +kernel)) hm_z
            obtain ⟨e993_z, e994_z⟩ := hm_z
            rw [e994_z]
            exact ⟨z992_z, ⟨by rw [show rg_v h990_z 164 17 = cb from e17_992]; omega, by rw [show rg_v h990_z 164 17 = cb from e17_992]; omega⟩, ⟨by rw [show rg_v h990_z 164 18 = ct from e18_992]; omega, by rw [show rg_v h990_z 164 18 = ct from e18_992]; omega⟩, ⟨by rw [show rg_v h990_z 164 19 = cl from e19_992]; omega, by rw [show rg_v h990_z 164 19 = cl from e19_992]; omega⟩, ⟨by rw [show rg_v h990_z 164 20 = cq from e20_992]; omega, by rw [show rg_v h990_z 164 20 = cq from e20_992]; omega⟩⟩
    · replace b686_z : (8 : Int32).toInt < (rg_v g 164 9).toInt := b686_z
      replace hm_z := rn_aload_n (am_cur_of (i := (17, 1, .aload_n 0, (0, 0, 0), 0)) (by decide +kernel)) g0_z hm_z
      replace hm_z := rn_iconst (w := 1) (am_cur_of (i := (18, 1, .iconst 1, (0, 0, 0), 0)) (by decide +kernel)) (by decide) hm_z
      replace hm_z := rn_callV (M' := am_m158) (o := 164) (ar := [.int 1]) (rest := []) (L := lv_args 0 [.ref 164, .int 1]) (am_cur_of (i := (19, 3, .invokevirtual 181, (158, 1665, 3), 0)) (by decide +kernel)) rfl rfl rfl rfl hm_z
      obtain ⟨r995_z, h996_z, q997_z, hm_z⟩ := hm_z
      obtain ⟨v998_z, rfl⟩ := rn_ret (M := am_m158) rfl (by decide) q997_z
      have K998 := kp_of (a := 158) (by decide) rfl (as := [.ref 164, .int 1]) (ra_Sc (fun _ e => by cases e; rfl) (ra_Sc (ra_Vi) ra_S0)) q997_z
      have z998_z := zM_t zM_r K998.1
      have e17_998 : rg_v h996_z 164 17 = cb := (K998.2 17 (by decide)).trans ecb
      have e18_998 : rg_v h996_z 164 18 = ct := (K998.2 18 (by decide)).trans ect
      have e19_998 : rg_v h996_z 164 19 = cl := (K998.2 19 (by decide)).trans ecl
      have e20_998 : rg_v h996_z 164 20 = cq := (K998.2 20 (by decide)).trans ecq
      replace hm_z : rn _ _ _ _ [.int v998_z] _ _ _ := hm_z
      replace hm_z := rn_iret (am_cur_of (i := (22, 1, .ireturn, (0, 0, 0), 0)) (by decide +kernel)) hm_z
      obtain ⟨e999_z, e1000_z⟩ := hm_z
      rw [e1000_z]
      exact ⟨z998_z, ⟨by rw [show rg_v h996_z 164 17 = cb from e17_998]; omega, by rw [show rg_v h996_z 164 17 = cb from e17_998]; omega⟩, ⟨by rw [show rg_v h996_z 164 18 = ct from e18_998]; omega, by rw [show rg_v h996_z 164 18 = ct from e18_998]; omega⟩, ⟨by rw [show rg_v h996_z 164 19 = cl from e19_998]; omega, by rw [show rg_v h996_z 164 19 = cl from e19_998]; omega⟩, ⟨by rw [show rg_v h996_z 164 20 = cq from e20_998]; omega, by rw [show rg_v h996_z 164 20 = cq from e20_998]; omega⟩⟩
/-- the class's reader reads into the plan d alone -/
def cz_A (d o : Nat) : Bool := Nat.beq o 44 || Nat.beq o 45 || Nat.beq o 47 || Nat.beq o 1 || (Nat.ble d o && Nat.ble o (d + 20))
def cz_fl (ci_z f : Nat) : Bool := Nat.blt f (am_tys ci_z).length
def cz_ok (a : Nat) : Bool := Nat.beq a 4 || Nat.beq a 5 || (Nat.ble 18 a && Nat.ble a 56)
def cz_w (d : Nat) : ra_W := (cz_A d, cz_fl, cz_ok)
set_option maxRecDepth 1000000 in
theorem cz_all2 : (List.range 256).all (ra_Mb (cz_w 2)) = true := by decide +kernel
def cz_c2 (o k : Nat) : Bool := Nat.ble (rg_c o k) 2 || (Nat.ble 4 (rg_c o k) && cz_A 2 (rg_c o k - 4)) || (Nat.beq o 44 && (Nat.beq k 4 || Nat.beq k 6))
def cz_cl2 (o : Nat) : Bool := !(cz_A 2 o) || (match am_ks0[o]? with
  | some kd => (List.range (ab_sz kd)).all (cz_c2 o)
  | none => true)
set_option maxRecDepth 1000000 in
theorem cz_clall2 : (List.range 203).all cz_cl2 = true := by decide +kernel
theorem cz_P2 {h : am_H} (hG : rg_Gd h) (e4_z : h 44 4 = .ref 1) (e6_z : h 44 6 = .ref 2) : ra_P (cz_w 2) h h := by
  have key : ∀ o k kd n, cz_A 2 o = true → am_ks0[o]? = some kd → k < ab_sz kd → h o k = .ref n → cz_A 2 n = true := by
    intro o k kd n ho hk_z hz_z e
    have hl_z : o < am_ks0.length := (List.getElem?_eq_some_iff.mp hk_z).1
    rw [rg_len] at hl_z
    have q := List.all_eq_true.mp cz_clall2 o (List.mem_range.mpr hl_z)
    unfold cz_cl2 at q
    rw [ho, hk_z] at q
    have q2_z : cz_c2 o k = true := List.all_eq_true.mp q k (List.mem_range.mpr hz_z)
    have hg := hG o k kd hk_z hz_z
    unfold cz_c2 at q2_z
    rw [Bool.or_eq_true, Bool.or_eq_true, Bool.and_eq_true, Bool.and_eq_true, Bool.or_eq_true] at q2_z
    rcases q2_z with (q2_z | q2_z) | ⟨q3_z, q4_z⟩
    · have := Nat.le_of_ble_eq_true q2_z
      rcases rg_gref hg e with c | c <;> omega
    · rcases rg_gref hg e with c | c
      · have := Nat.le_of_ble_eq_true q2_z.1
        omega
      · have q5_z := q2_z.2
        rw [c, Nat.add_sub_cancel] at q5_z
        exact q5_z
    · have := Nat.eq_of_beq_eq_true q3_z
      subst this
      rcases q4_z with q4_z | q4_z
      · have := Nat.eq_of_beq_eq_true q4_z
        subst this
        rw [e4_z] at e
        cases e
        rfl
      · have := Nat.eq_of_beq_eq_true q4_z
        subst this
        rw [e6_z] at e
        cases e
        rfl
  refine ⟨fun o ci_z f n ho hk_z hf_z e => key o f _ n ho hk_z (Nat.le_of_ble_eq_true hf_z) e, fun o ty N k n ho hk_z hN e => key o k _ n ho hk_z hN e, fun _ _ _ => rfl⟩
theorem cz2_z {n : Nat} {h h' : am_H} {r : Option Value} {nn : Int32} (hc_z : rn n am_m18 0 (lv_args 0 [.ref 44, .ref 1, .int nn, .ref 2]) [] h r h') : ∀ o k, cz_A 2 o = false → h' o k = h o k := by
  have g0_z : am_get (lv_args 0 [.ref 44, .ref 1, .int nn, .ref 2]) 0 = some (.ref 44) := rfl
  have g1_z : am_get (lv_args 0 [.ref 44, .ref 1, .int nn, .ref 2]) 1 = some (.ref 1) := rfl
  have g2_z : am_get (lv_args 0 [.ref 44, .ref 1, .int nn, .ref 2]) 2 = some (.int nn) := rfl
  have g3_z : am_get (lv_args 0 [.ref 44, .ref 1, .int nn, .ref 2]) 3 = some (.ref 2) := rfl
  replace hc_z := rn_aload_n (am_cur_of (i := (0, 1, .aload_n 0, (0, 0, 0), 0)) (by decide +kernel)) g0_z hc_z
  replace hc_z := rn_aload_n (am_cur_of (i := (1, 1, .aload_n 1, (0, 0, 0), 0)) (by decide +kernel)) g1_z hc_z
  replace hc_z := rn_put (am_cur_of (i := (2, 3, .putfield 19, (4, 4, 413), 0)) (by decide +kernel)) (by decide +kernel) hc_z
  replace hc_z := rn_aload_n (am_cur_of (i := (5, 1, .aload_n 0, (0, 0, 0), 0)) (by decide +kernel)) g0_z hc_z
  replace hc_z := rn_iload_n (am_cur_of (i := (6, 1, .iload_n 2, (0, 0, 0), 0)) (by decide +kernel)) g2_z hc_z
  replace hc_z := rn_put (am_cur_of (i := (7, 3, .putfield 37, (4, 5, 414), 0)) (by decide +kernel)) (by decide +kernel) hc_z
  replace hc_z := rn_aload_n (am_cur_of (i := (10, 1, .aload_n 0, (0, 0, 0), 0)) (by decide +kernel)) g0_z hc_z
  replace hc_z := rn_aload_n (am_cur_of (i := (11, 1, .aload_n 3, (0, 0, 0), 0)) (by decide +kernel)) g3_z hc_z
  replace hc_z := rn_put (am_cur_of (i := (12, 3, .putfield 25, (4, 6, 415), 0)) (by decide +kernel)) (by decide +kernel) hc_z
  have hk_z := ra_KM (w := cz_w 2) cz_all2 (a := 18) (by decide) rfl
  have hP := cz_P2 (rn_G hc_z) (show (am_up (am_up (am_up h 44 4 (.ref 1)) 44 5 (.int nn)) 44 6 (.ref 2)) 44 4 = .ref 1 from rfl) (show (am_up (am_up (am_up h 44 4 (.ref 1)) 44 5 (.int nn)) 44 6 (.ref 2)) 44 6 = .ref 2 from rfl)
  obtain ⟨-, -, nc, ns, m, -, hrun⟩ := hc_z
  have z := (ra_run (fun a M ha_z hM => ra_KM (w := cz_w 2) cz_all2 ha_z hM) m am_m18 _ _ _ _ nc ns _ hk_z (fun j hj_z => hk_z j (List.mem_of_mem_drop hj_z)) (ra_La (ra_Sc (fun _ e => by cases e; rfl) (ra_Sc (fun _ e => by cases e; rfl) (ra_Sc ra_Vi (ra_Sc (fun _ e => by cases e; rfl) ra_S0))))) ra_S0 hP hrun).2.2.2.2
  intro o k e
  refine (z o k e).trans ?_
  have ho : ¬ o = 44 := fun q => by subst q; exact absurd e (by decide)
  rw [am_up_other _ _ _ _ _ ho, am_up_other _ _ _ _ _ ho, am_up_other _ _ _ _ _ ho]
set_option maxRecDepth 1000000 in
theorem cz_all23 : (List.range 256).all (ra_Mb (cz_w 23)) = true := by decide +kernel
def cz_c23 (o k : Nat) : Bool := Nat.ble (rg_c o k) 2 || (Nat.ble 4 (rg_c o k) && cz_A 23 (rg_c o k - 4)) || (Nat.beq o 44 && (Nat.beq k 4 || Nat.beq k 6))
def cz_cl23 (o : Nat) : Bool := !(cz_A 23 o) || (match am_ks0[o]? with
  | some kd => (List.range (ab_sz kd)).all (cz_c23 o)
  | none => true)
set_option maxRecDepth 1000000 in
theorem cz_clall23 : (List.range 203).all cz_cl23 = true := by decide +kernel
theorem cz_P23 {h : am_H} (hG : rg_Gd h) (e4_z : h 44 4 = .ref 1) (e6_z : h 44 6 = .ref 23) : ra_P (cz_w 23) h h := by
  have key : ∀ o k kd n, cz_A 23 o = true → am_ks0[o]? = some kd → k < ab_sz kd → h o k = .ref n → cz_A 23 n = true := by
    intro o k kd n ho hk_z hz_z e
    have hl_z : o < am_ks0.length := (List.getElem?_eq_some_iff.mp hk_z).1
    rw [rg_len] at hl_z
    have q := List.all_eq_true.mp cz_clall23 o (List.mem_range.mpr hl_z)
    unfold cz_cl23 at q
    rw [ho, hk_z] at q
    have q2_z : cz_c23 o k = true := List.all_eq_true.mp q k (List.mem_range.mpr hz_z)
    have hg := hG o k kd hk_z hz_z
    unfold cz_c23 at q2_z
    rw [Bool.or_eq_true, Bool.or_eq_true, Bool.and_eq_true, Bool.and_eq_true, Bool.or_eq_true] at q2_z
    rcases q2_z with (q2_z | q2_z) | ⟨q3_z, q4_z⟩
    · have := Nat.le_of_ble_eq_true q2_z
      rcases rg_gref hg e with c | c <;> omega
    · rcases rg_gref hg e with c | c
      · have := Nat.le_of_ble_eq_true q2_z.1
        omega
      · have q5_z := q2_z.2
        rw [c, Nat.add_sub_cancel] at q5_z
        exact q5_z
    · have := Nat.eq_of_beq_eq_true q3_z
      subst this
      rcases q4_z with q4_z | q4_z
      · have := Nat.eq_of_beq_eq_true q4_z
        subst this
        rw [e4_z] at e
        cases e
        rfl
      · have := Nat.eq_of_beq_eq_true q4_z
        subst this
        rw [e6_z] at e
        cases e
        rfl
  refine ⟨fun o ci_z f n ho hk_z hf_z e => key o f _ n ho hk_z (Nat.le_of_ble_eq_true hf_z) e, fun o ty N k n ho hk_z hN e => key o k _ n ho hk_z hN e, fun _ _ _ => rfl⟩
theorem cz23_z {n : Nat} {h h' : am_H} {r : Option Value} {nn : Int32} (hc_z : rn n am_m18 0 (lv_args 0 [.ref 44, .ref 1, .int nn, .ref 23]) [] h r h') : ∀ o k, cz_A 23 o = false → h' o k = h o k := by
  have g0_z : am_get (lv_args 0 [.ref 44, .ref 1, .int nn, .ref 23]) 0 = some (.ref 44) := rfl
  have g1_z : am_get (lv_args 0 [.ref 44, .ref 1, .int nn, .ref 23]) 1 = some (.ref 1) := rfl
  have g2_z : am_get (lv_args 0 [.ref 44, .ref 1, .int nn, .ref 23]) 2 = some (.int nn) := rfl
  have g3_z : am_get (lv_args 0 [.ref 44, .ref 1, .int nn, .ref 23]) 3 = some (.ref 23) := rfl
  replace hc_z := rn_aload_n (am_cur_of (i := (0, 1, .aload_n 0, (0, 0, 0), 0)) (by decide +kernel)) g0_z hc_z
  replace hc_z := rn_aload_n (am_cur_of (i := (1, 1, .aload_n 1, (0, 0, 0), 0)) (by decide +kernel)) g1_z hc_z
  replace hc_z := rn_put (am_cur_of (i := (2, 3, .putfield 19, (4, 4, 413), 0)) (by decide +kernel)) (by decide +kernel) hc_z
  replace hc_z := rn_aload_n (am_cur_of (i := (5, 1, .aload_n 0, (0, 0, 0), 0)) (by decide +kernel)) g0_z hc_z
  replace hc_z := rn_iload_n (am_cur_of (i := (6, 1, .iload_n 2, (0, 0, 0), 0)) (by decide +kernel)) g2_z hc_z
  replace hc_z := rn_put (am_cur_of (i := (7, 3, .putfield 37, (4, 5, 414), 0)) (by decide +kernel)) (by decide +kernel) hc_z
  replace hc_z := rn_aload_n (am_cur_of (i := (10, 1, .aload_n 0, (0, 0, 0), 0)) (by decide +kernel)) g0_z hc_z
  replace hc_z := rn_aload_n (am_cur_of (i := (11, 1, .aload_n 3, (0, 0, 0), 0)) (by decide +kernel)) g3_z hc_z
  replace hc_z := rn_put (am_cur_of (i := (12, 3, .putfield 25, (4, 6, 415), 0)) (by decide +kernel)) (by decide +kernel) hc_z
  have hk_z := ra_KM (w := cz_w 23) cz_all23 (a := 18) (by decide) rfl
  have hP := cz_P23 (rn_G hc_z) (show (am_up (am_up (am_up h 44 4 (.ref 1)) 44 5 (.int nn)) 44 6 (.ref 23)) 44 4 = .ref 1 from rfl) (show (am_up (am_up (am_up h 44 4 (.ref 1)) 44 5 (.int nn)) 44 6 (.ref 23)) 44 6 = .ref 23 from rfl)
  obtain ⟨-, -, nc, ns, m, -, hrun⟩ := hc_z
  have z := (ra_run (fun a M ha_z hM => ra_KM (w := cz_w 23) cz_all23 ha_z hM) m am_m18 _ _ _ _ nc ns _ hk_z (fun j hj_z => hk_z j (List.mem_of_mem_drop hj_z)) (ra_La (ra_Sc (fun _ e => by cases e; rfl) (ra_Sc (fun _ e => by cases e; rfl) (ra_Sc ra_Vi (ra_Sc (fun _ e => by cases e; rfl) ra_S0))))) ra_S0 hP hrun).2.2.2.2
  intro o k e
  refine (z o k e).trans ?_
  have ho : ¬ o = 44 := fun q => by subst q; exact absurd e (by decide)
  rw [am_up_other _ _ _ _ _ ho, am_up_other _ _ _ _ _ ho, am_up_other _ _ _ _ _ ho]
def cz_q (p d o : Nat) : Bool := zcB p o || !(cz_A d o)
theorem cz_z {p d : Nat} {h h' : am_H} (hp_z : (p = 2 ∧ d = 23) ∨ (p = 23 ∧ d = 2)) (a : ∀ o k, cz_A d o = false → h' o k = h o k) : zC p h h' := by
  intro o k e _
  unfold rg_v
  rw [a o k ?_]
  have ho : o < 64 := by
    unfold zcB at e
    rw [Bool.not_eq_false', Bool.or_eq_true, Bool.and_eq_true, Bool.and_eq_true] at e
    rcases e with ⟨-, e⟩ | ⟨-, e⟩ <;> have := Nat.le_of_ble_eq_true e <;> omega
  have q : cz_q p d o = true := by
    rcases hp_z with ⟨rfl, rfl⟩ | ⟨rfl, rfl⟩
    · exact List.all_eq_true.mp (show (List.range 64).all (cz_q 2 23) = true by decide +kernel) o (List.mem_range.mpr ho)
    · exact List.all_eq_true.mp (show (List.range 64).all (cz_q 23 2) = true by decide +kernel) o (List.mem_range.mpr ho)
  unfold cz_q at q
  rw [e] at q
  cases hq_z : cz_A d o with
  | false => rfl
  | true => rw [hq_z] at q; cases q
