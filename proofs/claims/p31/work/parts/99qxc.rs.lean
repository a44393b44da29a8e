/-! ===== WHAT A REFUSED TEXT LEAVES (wip/r/gen99rk.py) ===== -/
theorem up_ne {h : am_H} {o k o' k' : Nat} {v : Value} (hne : ¬ (o' = o ∧ k' = k)) : am_up h o k v o' k' = h o' k' := by
  by_cases e : o' = o
  · subst e
    exact am_up_same _ _ _ _ _ (fun q => hne ⟨rfl, q⟩)
  · rw [am_up_other _ _ _ _ _ e]
/-- the model's methods that read a text -/
def nk_A (o : Nat) : Bool := Nat.ble 164 o && Nat.ble o 185
def nk_fl (ci_z f : Nat) : Bool := Nat.beq ci_z 12 && Nat.blt f (am_tys 12).length && Nat.ble f 46
def nk_ok (a : Nat) : Bool := Nat.beq a 143 || (Nat.ble 151 a && Nat.ble a 181)
def nk_w : ra_W := (nk_A, nk_fl, nk_ok)
set_option maxRecDepth 1000000 in
theorem nk_all : (List.range 256).all (ra_Mb nk_w) = true := by decide +kernel
def nk_cl (o : Nat) : Bool := !(nk_A o) || (match am_ks0[o]? with
  | some (.inl ci_z) => (List.range 48).all (fun f => !(nk_fl ci_z f) || (Nat.ble (rg_c o f) 2 || (Nat.ble 4 (rg_c o f) && nk_A (rg_c o f - 4))))
  | some (.inr (_, n)) => (List.range n).all (fun k => Nat.ble (rg_c o k) 2)
  | none => true)
set_option maxRecDepth 1000000 in
theorem nk_clall : (List.range 203).all nk_cl = true := by decide +kernel
theorem nk_P {h : am_H} (hG : rg_Gd h) : ra_P nk_w h h := by
  have hb_z : ∀ o, am_ks0[o]? ≠ none → nk_cl o = true := by
    intro o ho
    have hl_z : o < am_ks0.length := by
      cases q : am_ks0[o]? with
      | none => exact absurd q ho
      | some kd => exact (List.getElem?_eq_some_iff.mp q).1
    rw [rg_len] at hl_z
    exact List.all_eq_true.mp nk_clall o (List.mem_range.mpr hl_z)
  refine ⟨fun o ci_z f n ho hk_z hf_z e => ?_, fun o ty N k n ho hk_z hN e => ?_, fun _ _ _ => rfl⟩
  · have q := hb_z o (by rw [hk_z]; exact fun z => by cases z)
    unfold nk_cl at q
    have ho' : nk_A o = true := ho
    have hf_z' : nk_fl ci_z f = true := hf_z
    rw [ho', hk_z] at q
    have hf2_z : Nat.ble f 46 = true ∧ Nat.blt f (am_tys 12).length = true ∧ Nat.beq ci_z 12 = true := by
      unfold nk_fl at hf_z'
      simp only [Bool.and_eq_true] at hf_z'
      exact ⟨hf_z'.2, hf_z'.1.2, hf_z'.1.1⟩
    have q2_z := List.all_eq_true.mp q f (List.mem_range.mpr (by have := Nat.le_of_ble_eq_true hf2_z.1; omega))
    rw [hf_z'] at q2_z
    have hci := Nat.eq_of_beq_eq_true hf2_z.2.2
    subst hci
    have hg := hG o f _ hk_z (Nat.le_of_ble_eq_true hf2_z.2.1)
    have q3_z : (Nat.ble (rg_c o f) 2 || (Nat.ble 4 (rg_c o f) && nk_A (rg_c o f - 4))) = true := q2_z
    rcases rg_gref hg e with c | c
    · rw [c] at q3_z
      exact absurd q3_z (by decide)
    · rw [c] at q3_z
      rw [Bool.or_eq_true, Bool.and_eq_true] at q3_z
      rcases q3_z with q3_z | q3_z
      · have := Nat.le_of_ble_eq_true q3_z
        omega
      · have q4_z := q3_z.2
        rw [Nat.add_sub_cancel] at q4_z
        exact q4_z
  · have q := hb_z o (by rw [hk_z]; exact fun z => by cases z)
    unfold nk_cl at q
    have ho' : nk_A o = true := ho
    rw [ho', hk_z] at q
    have q2_z := List.all_eq_true.mp q k (List.mem_range.mpr hN)
    have hg := hG o k _ hk_z hN
    have q3_z := Nat.le_of_ble_eq_true (show Nat.ble (rg_c o k) 2 = true from q2_z)
    rcases rg_gref hg e with c | c <;> omega
/-- fields of the model that a reader's method leaves -/
def nj_p (k : Nat) : Bool := (Nat.ble 12 k && Nat.ble k 16) || (Nat.ble 22 k && Nat.ble k 40) || Nat.ble 47 k
def nj_w : rw_W := (fun ci_z f => !(Nat.beq (rg_cl ci_z f) 9) && !(Nat.beq ci_z 12 && nj_p f), true, nk_ok)
def nj_P (v : Nat → Value) (h : am_H) : Prop := rg_Gd h ∧ ∀ k, nj_p k = true → h 164 k = v k
theorem nj_k164 : am_ks0[164]? = some (.inl 12) := by decide +kernel
theorem nj_wP (v : Nat → Value) : rw_P nj_w (nj_P v) := by
  refine ⟨fun h o ci_z f u hP hk_z hc_z hf_z => ?_, fun _ h o r n ty u hP hk_z ht hq_z hf_z => ?_⟩
  · have hc_z' : (!(Nat.beq (rg_cl ci_z f) 9) && !(Nat.beq ci_z 12 && nj_p f)) = true := hc_z
    rw [Bool.and_eq_true] at hc_z'
    refine ⟨rn_wP.1 h o ci_z f u hP.1 hk_z hc_z'.1 hf_z, fun k hkp => ?_⟩
    rw [up_ne]
    · exact hP.2 k hkp
    · rintro ⟨e1_z, e2_z⟩
      subst e1_z; subst e2_z
      rw [nj_k164] at hk_z
      cases hk_z
      have z := hc_z'.2
      rw [hkp] at z
      exact absurd z (by decide)
  · have hne : ∀ k, ¬ ((164 : Nat) = o ∧ k = r) := by
      rintro k ⟨e1_z, -⟩
      subst e1_z
      rw [nj_k164] at hk_z
      cases hk_z
    exact ⟨rn_wP.2 rfl h o r n ty u hP.1 hk_z ht hq_z hf_z, fun k hkp => (up_ne (hne k)).trans (hP.2 k hkp)⟩
def nj_M (a : Nat) : Bool := !(nk_ok a) || (match am_prog[a]? with
  | some M => M.2.2.2.all (rw_I nj_w)
  | none => true)
set_option maxRecDepth 1000000 in
theorem nj_M_all : (List.range 256).all nj_M = true := by decide +kernel
theorem nj_K {a : Nat} {M : am_M} (ha_z : nk_ok a = true) (hM : am_prog[a]? = some M) : rw_K nj_w M.2.2.2 := by
  have hl_z : a < am_prog.length := (List.getElem?_eq_some_iff.mp hM).1
  rw [am_prog_len] at hl_z
  have hb_z := List.all_eq_true.mp nj_M_all a (List.mem_range.mpr (by omega))
  unfold nj_M at hb_z
  rw [ha_z, hM] at hb_z
  exact List.all_eq_true.mp hb_z
/-- the model's fields and rows beside the reader's stay -/
def yk (g g' : am_H) : Prop := (∀ k, nj_p k = true → g' 164 k = g 164 k) ∧ ∀ o k, 186 ≤ o → g' o k = g o k
def yB (o k : Nat) : Bool := (Nat.beq o 164 && !(nj_p k)) || (Nat.ble 165 o && Nat.ble o 185)
theorem yk_r {g : am_H} : yk g g := ⟨fun _ _ => rfl, fun _ _ _ => rfl⟩
theorem yk_t {g g' g'' : am_H} (a : yk g g') (b : yk g' g'') : yk g g'' := ⟨fun k hk_z => (b.1 k hk_z).trans (a.1 k hk_z), fun o k ho => (b.2 o k ho).trans (a.2 o k ho)⟩
theorem yk_u {g g' : am_H} {o k : Nat} {v : Value} (hb_z : yB o k = true) (a : yk g g') : yk g (am_up g' o k v) := by
  have key : ∀ o' k', ((o' = 164 ∧ nj_p k' = true) ∨ 186 ≤ o') → ¬ (o' = o ∧ k' = k) := by
    rintro o' k' hq_z ⟨e1_z, e2_z⟩
    subst e1_z
    subst e2_z
    unfold yB at hb_z
    rw [Bool.or_eq_true, Bool.and_eq_true, Bool.and_eq_true] at hb_z
    rcases hq_z with ⟨q1_z, q2_z⟩ | q1_z
    · rcases hb_z with ⟨-, b2_z⟩ | ⟨b1_z, -⟩
      · rw [q2_z] at b2_z
        exact absurd b2_z (by decide)
      · have := Nat.le_of_ble_eq_true b1_z
        omega
    · rcases hb_z with ⟨b1_z, -⟩ | ⟨-, b2_z⟩
      · have := Nat.eq_of_beq_eq_true b1_z
        omega
      · have := Nat.le_of_ble_eq_true b2_z
        omega
  exact ⟨fun k' hk_z => (up_ne (key 164 k' (Or.inl ⟨rfl, hk_z⟩))).trans (a.1 k' hk_z), fun o' k' ho => (up_ne (key o' k' (Or.inr ho))).trans (a.2 o' k' ho)⟩
theorem yk_of {a n : Nat} {M : am_M} {h h' : am_H} {r : Option Value} (ha_z : nk_ok a = true) (hM : am_prog[a]? = some M) (hr : rn n M 0 (lv_args 0 [.ref 164]) [] h r h') : yk h h' := by
  have hs_z : ra_S nk_A [.ref 164] := ra_Sc (fun n e => by cases e; rfl) ra_S0
  have f := ra_rn (w := nk_w) nk_all ha_z hM hs_z (nk_P (rn_G hr)) hr
  refine ⟨?_, fun o k ho => f o k ?_⟩
  · obtain ⟨-, hG, nc, ns, m, -, hrun⟩ := hr
    exact (rw_run (nj_wP (fun k => h 164 k)) (fun a M ha_z hM => Or.inl (nj_K ha_z hM)) m M _ _ _ h nc ns _ (nj_K ha_z hM) (fun j hj_z => nj_K ha_z hM j (List.mem_of_mem_drop hj_z)) ⟨hG, fun _ _ => rfl⟩ hrun).2.2
  · show (Nat.ble 164 o && Nat.ble o 185) = false
    cases q : Nat.ble o 185 with
    | false => rw [Bool.and_false]
    | true =>
      have := Nat.le_of_ble_eq_true q
      omega
theorem yk_v {g g' : am_H} {k : Nat} (a : yk g g') (hk_z : nj_p k = true) : rg_v g' 164 k = rg_v g 164 k := by
  unfold rg_v
  rw [a.1 k hk_z]
theorem yk_l {g g' : am_H} {k : Nat} (a : yk g g') (hk_z : nj_p k = true) : rg_l g' 164 k = rg_l g 164 k := by
  unfold rg_l
  rw [a.1 k hk_z]
/-- the class's reader: the draft at d -/
def dk_A (d o : Nat) : Bool := (Nat.ble d o && Nat.ble o (d + 20)) || Nat.beq o 1 || (Nat.ble 44 o && Nat.ble o 47)
def dk_fl (ci_z f : Nat) : Bool := Nat.ble 1 ci_z && Nat.ble ci_z 4 && Nat.blt f (am_tys ci_z).length && Nat.ble f 19
def dk_ok (a : Nat) : Bool := Nat.beq a 4 || Nat.beq a 5 || (Nat.ble 18 a && Nat.ble a 56)
def dk_w (d : Nat) : ra_W := (dk_A d, dk_fl, dk_ok)
set_option maxRecDepth 1000000 in
theorem dk_all {d : Nat} (hd_z : d = 2 ∨ d = 23) : (List.range 256).all (ra_Mb (dk_w d)) = true := by
  rcases hd_z with rfl | rfl
  · decide +kernel
  · decide +kernel
def dk_cl (d o : Nat) : Bool := !(dk_A d o) || (match am_ks0[o]? with
  | some (.inl ci_z) => (List.range 20).all (fun f => !(dk_fl ci_z f) || (Nat.ble (rg_c o f) 2 || (Nat.ble 4 (rg_c o f) && dk_A d (rg_c o f - 4)) || (Nat.beq o 44 && (Nat.beq f 4 || Nat.beq f 6))))
  | some (.inr (_, n)) => (List.range n).all (fun k => Nat.ble (rg_c o k) 2 || (Nat.ble 4 (rg_c o k) && dk_A d (rg_c o k - 4)))
  | none => true)
set_option maxRecDepth 1000000 in
theorem dk_clall {d : Nat} (hd_z : d = 2 ∨ d = 23) : (List.range 203).all (dk_cl d) = true := by
  rcases hd_z with rfl | rfl
  · decide +kernel
  · decide +kernel
theorem dk_P {h : am_H} {d : Nat} (hd_z : d = 2 ∨ d = 23) (e4_z : h 44 4 = .ref 1) (e6_z : h 44 6 = .ref d) (hG : rg_Gd h) : ra_P (dk_w d) h h := by
  have hb_z : ∀ o, am_ks0[o]? ≠ none → dk_cl d o = true := by
    intro o ho
    have hl_z : o < am_ks0.length := by
      cases q : am_ks0[o]? with
      | none => exact absurd q ho
      | some kd => exact (List.getElem?_eq_some_iff.mp q).1
    rw [rg_len] at hl_z
    exact List.all_eq_true.mp (dk_clall hd_z) o (List.mem_range.mpr hl_z)
  refine ⟨fun o ci_z f n ho hk_z hf_z e => ?_, fun o ty N k n ho hk_z hN e => ?_, fun _ _ _ => rfl⟩
  · have q := hb_z o (by rw [hk_z]; exact fun z => by cases z)
    unfold dk_cl at q
    have ho' : dk_A d o = true := ho
    have hf_z' : dk_fl ci_z f = true := hf_z
    rw [ho', hk_z] at q
    have hf2_z : Nat.ble f 19 = true ∧ Nat.blt f (am_tys ci_z).length = true := by
      unfold dk_fl at hf_z'
      simp only [Bool.and_eq_true] at hf_z'
      exact ⟨hf_z'.2, hf_z'.1.2⟩
    have q2_z := List.all_eq_true.mp q f (List.mem_range.mpr (by have := Nat.le_of_ble_eq_true hf2_z.1; omega))
    rw [hf_z'] at q2_z
    have hg := hG o f _ hk_z (Nat.le_of_ble_eq_true hf2_z.2)
    have q3_z : (Nat.ble (rg_c o f) 2 || (Nat.ble 4 (rg_c o f) && dk_A d (rg_c o f - 4)) || (Nat.beq o 44 && (Nat.beq f 4 || Nat.beq f 6))) = true := q2_z
    rw [Bool.or_eq_true] at q3_z
    rcases q3_z with q3_z | q3_z
    · rcases rg_gref hg e with c | c
      · rw [c] at q3_z
        exact absurd (show false = true from q3_z) (by decide)
      · rw [c] at q3_z
        rw [Bool.or_eq_true, Bool.and_eq_true] at q3_z
        rcases q3_z with q3_z | q3_z
        · have := Nat.le_of_ble_eq_true q3_z
          omega
        · have q4_z := q3_z.2
          rw [Nat.add_sub_cancel] at q4_z
          exact q4_z
    · rw [Bool.and_eq_true, Bool.or_eq_true] at q3_z
      have z0_z := Nat.eq_of_beq_eq_true q3_z.1
      subst z0_z
      rcases q3_z.2 with z | z
      · have z1_z := Nat.eq_of_beq_eq_true z
        subst z1_z
        rw [e4_z] at e
        cases e
        rcases hd_z with rfl | rfl <;> rfl
      · have z1_z := Nat.eq_of_beq_eq_true z
        subst z1_z
        rw [e6_z] at e
        cases e
        rcases hd_z with rfl | rfl <;> rfl
  · have q := hb_z o (by rw [hk_z]; exact fun z => by cases z)
    unfold dk_cl at q
    have ho' : dk_A d o = true := ho
    rw [ho', hk_z] at q
    have q2_z := List.all_eq_true.mp q k (List.mem_range.mpr hN)
    have hg := hG o k _ hk_z hN
    have q3_z : (Nat.ble (rg_c o k) 2 || (Nat.ble 4 (rg_c o k) && dk_A d (rg_c o k - 4))) = true := q2_z
    rcases rg_gref hg e with c | c
    · rw [c] at q3_z
      exact absurd (show false = true from q3_z) (by decide)
    · rw [c] at q3_z
      rw [Bool.or_eq_true, Bool.and_eq_true] at q3_z
      rcases q3_z with q3_z | q3_z
      · have := Nat.le_of_ble_eq_true q3_z
        omega
      · have q4_z := q3_z.2
        rw [Nat.add_sub_cancel] at q4_z
        exact q4_z
/-- what the class's reader leaves: all but the tape's reader and the draft -/
def dk_o (d o : Nat) : Prop := o = 0 ∨ 48 ≤ o ∨ (25 - d ≤ o ∧ o ≤ 45 - d)
theorem dk_Af {d o : Nat} (hd_z : d = 2 ∨ d = 23) (ho : dk_o d o) : dk_A d o = false := by
  cases q : dk_A d o with
  | false => rfl
  | true =>
    exfalso
    unfold dk_A at q
    unfold dk_o at ho
    rw [Bool.or_eq_true, Bool.or_eq_true, Bool.and_eq_true, Bool.and_eq_true] at q
    rcases q with (⟨a, b⟩ | a) | ⟨a, b⟩
    · have a2_z := Nat.le_of_ble_eq_true a
      have b2_z := Nat.le_of_ble_eq_true b
      omega
    · have a2_z := Nat.eq_of_beq_eq_true a
      omega
    · have a2_z := Nat.le_of_ble_eq_true a
      have b2_z := Nat.le_of_ble_eq_true b
      omega
theorem dk_18 {n d : Nat} {h h' : am_H} {r : Option Value} {ls : am_L} (hd_z : d = 2 ∨ d = 23) (e4_z : h 44 4 = .ref 1) (e6_z : h 44 6 = .ref d) (hL : ra_L (dk_A d) ls) (hr : rn n am_m18 9 ls [] h r h') : ∀ o k, dk_o d o → h' o k = h o k := by
  obtain ⟨-, hG, nc, ns, m, -, hrun⟩ := hr
  have hk_z : ra_K (dk_w d) am_m18.2.2.2 := ra_KM (dk_all hd_z) (a := 18) (show dk_ok 18 = true by decide) rfl
  intro o k ho
  exact (ra_run (fun a M ha_z hM => ra_KM (dk_all hd_z) ha_z hM) m am_m18 _ _ _ h nc ns _ hk_z (fun j hj_z => hk_z j (List.mem_of_mem_drop hj_z)) hL ra_S0 (dk_P hd_z e4_z e6_z hG) hrun).2.2.2.2 o k (dk_Af hd_z ho)
theorem rx_18 {n d : Nat} {h h' : am_H} {r : Option Value} {nn : Int32} (hd_z : d = 2 ∨ d = 23) (hc_z : rn n am_m18 0 (lv_args 0 [.ref 44, .ref 1, .int nn, .ref d]) [] h r h') : ∀ o k, dk_o d o → h' o k = h o k := by
  have g0_z : am_get (lv_args 0 [.ref 44, .ref 1, .int nn, .ref d]) 0 = some (.ref 44) := rfl
  have g1_z : am_get (lv_args 0 [.ref 44, .ref 1, .int nn, .ref d]) 1 = some (.ref 1) := rfl
  have g2_z : am_get (lv_args 0 [.ref 44, .ref 1, .int nn, .ref d]) 2 = some (.int nn) := rfl
  have g3_z : am_get (lv_args 0 [.ref 44, .ref 1, .int nn, .ref d]) 3 = some (.ref d) := rfl
  replace hc_z := rn_aload_n (am_cur_of (i := (0, 1, .aload_n 0, (0, 0, 0), 0)) (by decide +kernel)) g0_z hc_z
  replace hc_z := rn_aload_n (am_cur_of (i := (1, 1, .aload_n 1, (0, 0, 0), 0)) (by decide +kernel)) g1_z hc_z
  replace hc_z := rn_put (am_cur_of (i := (2, 3, .putfield 19, (4, 4, 413), 0)) (by decide +kernel)) (by decide +kernel) hc_z
  replace hc_z := rn_aload_n (am_cur_of (i := (5, 1, .aload_n 0, (0, 0, 0), 0)) (by decide +kernel)) g0_z hc_z
  replace hc_z := rn_iload_n (am_cur_of (i := (6, 1, .iload_n 2, (0, 0, 0), 0)) (by decide +kernel)) g2_z hc_z
  replace hc_z := rn_put (am_cur_of (i := (7, 3, .putfield 37, (4, 5, 414), 0)) (by decide +kernel)) (by decide +kernel) hc_z
  replace hc_z := rn_aload_n (am_cur_of (i := (10, 1, .aload_n 0, (0, 0, 0), 0)) (by decide +kernel)) g0_z hc_z
  replace hc_z := rn_aload_n (am_cur_of (i := (11, 1, .aload_n 3, (0, 0, 0), 0)) (by decide +kernel)) g3_z hc_z
  replace hc_z := rn_put (am_cur_of (i := (12, 3, .putfield 25, (4, 6, 415), 0)) (by decide +kernel)) (by decide +kernel) hc_z
  have hL : ra_L (dk_A d) (lv_args 0 [.ref 44, .ref 1, .int nn, .ref d]) := ra_La (ra_Sc (fun n e => by cases e; rcases hd_z with rfl | rfl <;> rfl) (ra_Sc (fun n e => by cases e; rcases hd_z with rfl | rfl <;> rfl) (ra_Sc ra_Vi (ra_Sc (fun n e => by cases e; rcases hd_z with rfl | rfl <;> rfl) ra_S0))))
  intro o k ho
  have hn_z : ¬ o = 44 := by unfold dk_o at ho; omega
  refine (dk_18 hd_z rfl rfl hL hc_z o k ho).trans ?_
  exact (up_ne (fun q => hn_z q.1)).trans ((up_ne (fun q => hn_z q.1)).trans (up_ne (fun q => hn_z q.1)))
