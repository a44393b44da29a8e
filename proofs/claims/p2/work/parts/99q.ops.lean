/-! ===== OPERATIONS ON GOOD HEAPS (wip/s/gen99q.py) ===== -/
def ag_K (t u : Int32) (h : am_H) : Prop := ab_Inv (ab_hi ab_tab) h ∧ ab_Jc h ∧ ac_Jm h ∧ h 0 1 = .int t ∧ h 164 1 = .int u
abbrev ag_G (t : Int32) (h : am_H) : Prop := ag_K t t h
abbrev ag_Q (t u : Int32) : Option Value → List am_k → am_H → Prop := fun r ks h' => ks = am_ks0 ∧ ag_K t u h' ∧ ∃ x : Int32, r = some (.int x)
abbrev ag_QL (t u : Int32) : Option Value → List am_k → am_H → Prop := fun r ks h' => ks = am_ks0 ∧ ag_K t u h' ∧ ∃ x : Int64, r = some (.long x)
theorem ag_inJ {o k : Nat} (h : ac_inJ o k = true) : 164 ≤ o := by
  unfold ac_inJ at h
  rw [Bool.or_eq_true] at h
  rcases h with h | h
  · obtain ⟨c, hc, hb⟩ := List.any_eq_true.mp h
    have e := Nat.eq_of_beq_eq_true hb
    subst e
    have : ac_cells.all (fun c => Nat.ble 164 c) = true := by decide
    exact Nat.le_of_ble_eq_true (List.all_eq_true.mp this _ hc)
  · rw [Bool.and_eq_true] at h
    rw [Nat.eq_of_beq_eq_true h.1]
    exact Nat.le_refl _
def ag_X (u : Int32) (h : am_H) : Prop := ac_Jm h ∧ h 164 1 = .int u
def ag_Y (t : Int32) (h : am_H) : Prop := ab_Jc h ∧ h 0 1 = .int t
theorem ag_XF (u : Int32) : ab_XF (ag_X u) := fun h h' he hx => ⟨ac_Jm_fr (fun o k ho => he o k (ag_inJ ho)) hx.1, (he 164 1 (by decide)).trans hx.2⟩
theorem ag_YF (t : Int32) : ac_YF (ag_Y t) := fun h h' he hy => ⟨⟨ab_J1_fr (fun k => he 12 k (by decide)) (fun k => he 13 k (by decide)) hy.1.1, ab_J1_fr (fun k => he 33 k (by decide)) (fun k => he 34 k (by decide)) hy.1.2.1, ab_J2_fr (fun k => he 143 k (by decide)) (fun k => he 144 k (by decide)) hy.1.2.2⟩, (he 0 1 (by decide)).trans hy.2⟩
theorem ag_mX (t : Int32) : ac_XF (ag_Y t) := ac_YF_XF (ag_YF t)
section AGO
variable {t u : Int32} {h : am_H}
theorem ag_c {s : ab_Sm} {M' : am_M} (hs : ab_Con ab_tab (ab_JX (ag_X u)) s) (hM : am_prog[s.1]? = some M') (hn : ab_in s.2.2.2.1 0 1 = false) (hp : s.2.2.1 = []) (hi : ab_intC s = true) {as : List Value} (hg : ab_gAs s.2.1 as) (hG : ag_K t u h) : am_Ek false am_G0 M' 0 (lv_args 0 as) [] am_ks0 h 0 0 (ag_Q t u) := by
  obtain ⟨g1, g2, g3, g4, g5⟩ := hG
  refine am_Ev_mono (ac_use hs hM hg g1 ⟨g2, g3, g5⟩ (by rw [hp]; exact ac_p0)) (fun r ks h' hq => ?_)
  obtain ⟨q1, q2, q3, q4, c, hc, q5⟩ := hq
  exact ⟨q1, ⟨q2, q3.1, q3.2.1, (q4 0 1 hn).trans g4, q3.2.2⟩, ab_intC_ok hi ⟨c, hc, q5.1⟩⟩
theorem ag_m {s : ab_Sm} {M' : am_M} (hs : ab_Con ab_tab (ac_JX (ag_Y t)) s) (hM : am_prog[s.1]? = some M') (hn : ab_in s.2.2.2.1 164 1 = false) (hp : s.2.2.1 = []) (hi : ab_intC s = true) {as : List Value} (hg : ab_gAs s.2.1 as) (hG : ag_K t u h) : am_Ek false am_G0 M' 0 (lv_args 0 as) [] am_ks0 h 0 0 (ag_Q t u) := by
  obtain ⟨g1, g2, g3, g4, g5⟩ := hG
  refine am_Ev_mono (ac_use hs hM hg g1 ⟨g3, g2, g4⟩ (by rw [hp]; exact ac_p0)) (fun r ks h' hq => ?_)
  obtain ⟨q1, q2, q3, q4, c, hc, q5⟩ := hq
  exact ⟨q1, ⟨q2, q3.2.1, q3.1, q3.2.2, (q4 164 1 hn).trans g5⟩, ab_intC_ok hi ⟨c, hc, q5.1⟩⟩
theorem ag_o {M' : am_M} {L : am_L} {md : List (Nat × Nat)} (hE : ab_Inv (ab_hi ab_tab) h → ac_JX (ag_Y t) h → am_Ek false am_G0 M' 0 L [] am_ks0 h 0 0 (ac_opQ (ag_Y t) md h)) (hn : ab_in md 164 1 = false) (hG : ag_K t u h) : am_Ek false am_G0 M' 0 L [] am_ks0 h 0 0 (ag_Q t u) := by
  obtain ⟨g1, g2, g3, g4, g5⟩ := hG
  refine am_Ev_mono (hE g1 ⟨g3, g2, g4⟩) (fun r ks h' hq => ?_)
  obtain ⟨q1, q2, q3, q4, q5⟩ := hq
  exact ⟨q1, ⟨q2, q3.2.1, q3.1, q3.2.2, (q4 164 1 hn).trans g5⟩, q5⟩
theorem ag_long {s : ab_Sm} (hl : s.2.2.2.2.all (fun c => match c.1 with | some V => Nat.beq V.1 1 | none => false) = true) {r : Option Value} (hr : ∃ c ∈ s.2.2.2.2, ab_gR c.1 r) : ∃ x : Int64, r = some (.long x) := by
  obtain ⟨c, hc, hg⟩ := hr
  have h1 := List.all_eq_true.mp hl c hc
  unfold ab_gR at hg
  split at hg
  · rename_i e
    rw [e] at h1
    cases h1
  · rename_i V v e
    rw [e] at h1
    obtain ⟨n, l, w, cc⟩ := V
    have e1 := Nat.eq_of_beq_eq_true h1
    dsimp only at e1
    subst e1
    obtain ⟨x, rfl⟩ := hg
    exact ⟨x, rfl⟩
  · exact hg.elim
theorem ag_cl {s : ab_Sm} {M' : am_M} (hs : ab_Con ab_tab (ab_JX (ag_X u)) s) (hM : am_prog[s.1]? = some M') (hn : ab_in s.2.2.2.1 0 1 = false) (hp : s.2.2.1 = []) (hi : s.2.2.2.2.all (fun c => match c.1 with | some V => Nat.beq V.1 1 | none => false) = true) {as : List Value} (hg : ab_gAs s.2.1 as) (hG : ag_K t u h) : am_Ek false am_G0 M' 0 (lv_args 0 as) [] am_ks0 h 0 0 (ag_QL t u) := by
  obtain ⟨g1, g2, g3, g4, g5⟩ := hG
  refine am_Ev_mono (ac_use hs hM hg g1 ⟨g2, g3, g5⟩ (by rw [hp]; exact ac_p0)) (fun r ks h' hq => ?_)
  obtain ⟨q1, q2, q3, q4, c, hc, q5⟩ := hq
  exact ⟨q1, ⟨q2, q3.1, q3.2.1, (q4 0 1 hn).trans g4, q3.2.2⟩, ag_long hi ⟨c, hc, q5.1⟩⟩
theorem ag_ml {s : ab_Sm} {M' : am_M} (hs : ab_Con ab_tab (ac_JX (ag_Y t)) s) (hM : am_prog[s.1]? = some M') (hn : ab_in s.2.2.2.1 164 1 = false) (hp : s.2.2.1 = []) (hi : s.2.2.2.2.all (fun c => match c.1 with | some V => Nat.beq V.1 1 | none => false) = true) {as : List Value} (hg : ab_gAs s.2.1 as) (hG : ag_K t u h) : am_Ek false am_G0 M' 0 (lv_args 0 as) [] am_ks0 h 0 0 (ag_QL t u) := by
  obtain ⟨g1, g2, g3, g4, g5⟩ := hG
  refine am_Ev_mono (ac_use hs hM hg g1 ⟨g3, g2, g4⟩ (by rw [hp]; exact ac_p0)) (fun r ks h' hq => ?_)
  obtain ⟨q1, q2, q3, q4, c, hc, q5⟩ := hq
  exact ⟨q1, ⟨q2, q3.2.1, q3.1, q3.2.2, (q4 164 1 hn).trans g5⟩, ag_long hi ⟨c, hc, q5.1⟩⟩
end AGO
theorem ag_i {i c : Int32} {v L n : Nat} (hi : i.toInt = v) (hc : c.toInt = n) (hL : v + n < L) (hL2 : L ≤ 3072) : ¬ ((i + c) < 0 ∨ L ≤ (i + c).toNatClampNeg) ∧ (i + c).toNatClampNeg = v + n := by
  have ea := ab_iadd (x := i) (y := c) (by omega) (by omega)
  exact ⟨ab_ix (by omega) (by omega), ab_clamp (by omega)⟩
theorem ag_okC {M' : am_M} {as rest : List Value} {nc ns : Nat} (h1 : (Nat.ble (M'.2.2.1.1 + 1) 14 && Nat.ble (8 + (M'.2.1.1 + 11) + M'.2.2.1.2.1) 570 && Nat.ble (am_cat rest) 8 && Nat.ble (am_cat as) M'.2.1.1) = true) (hz : M'.2.2.1.2.2.1 ≤ 4 ∧ M'.2.2.1.2.2.2 ≤ 40) (hc : nc ≤ 10000) (hs : ns ≤ 100000) : am_okC am_m254 M' as rest nc ns = true := by
  simp only [Bool.and_eq_true] at h1
  obtain ⟨⟨⟨a1, a2⟩, a3⟩, a4⟩ := h1
  unfold am_okC
  simp only [Bool.and_eq_true]
  exact ⟨⟨⟨⟨⟨a1, a2⟩, Nat.ble_eq_true_of_le (show _ ≤ 601024 by omega)⟩, Nat.ble_eq_true_of_le (show _ ≤ 7293034 by omega)⟩, a3⟩, a4⟩
section AGE
variable {G : am_G} {M : am_M} {k pc len : Nat} {an : Nat × Nat × Nat} {z : Int} {ls : am_L} {st : List Value} {ks : List am_k} {h : am_H} {nc ns : Nat} {Q : Option Value → List am_k → am_H → Prop}
theorem am_e_pop2 {v : Value} (hn : am_nxt M k (pc, len, .pop2, an, z)) (hv : Nat.beq v.category 2 = true) (K : am_Ek false G M (k + 1) ls st ks h nc ns Q) : am_Ek false G M k ls (v :: st) ks h nc ns Q := am_e_of hn (fun _ => rfl) (fun _ => by simp only [am_one, hv, cond_true]) K
theorem ag_e_look {idx a b : Nat} {ar rest : List Value} {h' : am_H} {scr : Option (Nat × (Nat → Int32))} {lk : List Value → List am_k → am_H → Option am_O} {v : Value} (hn : am_nxt M k (pc, len, .invokestatic idx, (a, b, 0), z)) (ht : st.take 4 = ar) (hd : st.drop 4 = rest) (hl : Nat.beq ar.length 4 = true)
    (hok : am_okC M am_mL ar.reverse rest nc ns = true) (hlk : lk ar.reverse ks h = some (some v, ks, h')) (K : am_Ek false (am_P1 scr lk) M (k + 1) ls (v :: rest) ks h' (nc + 4) (ns + 40) Q) : am_Ek false (am_P1 scr lk) M k ls st ks h nc ns Q := by
  refine am_e_of hn (fun _ => rfl) (fun cs => ?_) K
  show cond (Nat.beq (st.take 4).length 4) (am_calls false M am_mL 0 (fun _ as ks h => lk as ks h) _ cs ls (st.take 4).reverse (st.drop 4) ks h nc ns) none = _
  rw [ht, hd, hl, cond_true]
  unfold am_calls
  rw [hok, cond_true]
  simp only [hlk]
  rfl
end AGE
section AGP
variable {t u : Int32} {h : am_H}
theorem ag_c_fault {a0 : Int32} (hG : ag_K t u h) : am_Ek false am_G0 am_m59 0 (lv_args 0 [.ref 0, .int a0]) [] am_ks0 h 0 0 (ag_Q t u) := ag_c (s := ab_s4) (ab_h4 (ag_XF u)) rfl (by decide +kernel) rfl rfl ⟨⟨0, rfl, List.mem_singleton.mpr rfl⟩, ab_top_ok _, trivial⟩ hG
theorem ag_c_named {a0 a1 : Int32} (hG : ag_K t u h) : am_Ek false am_G0 am_m60 0 (lv_args 0 [.ref 0, .int a0, .int a1]) [] am_ks0 h 0 0 (ag_Q t u) := ag_c (s := ab_s6) (ab_h6 (ag_XF u)) rfl (by decide +kernel) rfl rfl ⟨⟨0, rfl, List.mem_singleton.mpr rfl⟩, ab_top_ok _, ab_top_ok _, trivial⟩ hG
theorem ag_c_law {a0 a1 : Int32} (hG : ag_K t u h) : am_Ek false am_G0 am_m61 0 (lv_args 0 [.ref 0, .int a0, .int a1]) [] am_ks0 h 0 0 (ag_QL t u) := ag_cl (s := ab_s9) (ab_h9 (ag_XF u)) rfl (by decide +kernel) rfl rfl ⟨⟨0, rfl, List.mem_singleton.mpr rfl⟩, ab_top_ok _, ab_top_ok _, trivial⟩ hG
theorem ag_c_blow {a0 a1 : Int32} (hG : ag_K t u h) : am_Ek false am_G0 am_m69 0 (lv_args 0 [.ref 0, .int a0, .int a1]) [] am_ks0 h 0 0 (ag_Q t u) := ag_c (s := ab_s11) (ab_h11 (ag_XF u)) rfl (by decide +kernel) rfl rfl ⟨⟨0, rfl, List.mem_singleton.mpr rfl⟩, ab_top_ok _, ab_top_ok _, trivial⟩ hG
theorem ag_c_waits {a0 a1 : Int32} (hG : ag_K t u h) (b0 : 0 ≤ a1.toInt) (b1 : a1.toInt ≤ 1) : am_Ek false am_G0 am_m83 0 (lv_args 0 [.ref 0, .int a0, .int a1]) [] am_ks0 h 0 0 (ag_Q t u) := ag_c (s := ab_s13) (ab_h13 (ag_XF u)) rfl (by decide +kernel) rfl rfl ⟨⟨0, rfl, List.mem_singleton.mpr rfl⟩, ab_top_ok _, ab_i_ok b0 b1, trivial⟩ hG
theorem ag_c_pump {a0 : Int32} (hG : ag_K t u h) : am_Ek false am_G0 am_m84 0 (lv_args 0 [.ref 0, .int a0]) [] am_ks0 h 0 0 (ag_Q t u) := ag_c (s := ab_s15) (ab_h15 (ag_XF u)) rfl (by decide +kernel) rfl rfl ⟨⟨0, rfl, List.mem_singleton.mpr rfl⟩, ab_top_ok _, trivial⟩ hG
theorem ag_c_patch {a0 : Int32} (hG : ag_K t u h) : am_Ek false am_G0 am_m85 0 (lv_args 0 [.ref 0, .int a0]) [] am_ks0 h 0 0 (ag_Q t u) := ag_c (s := ab_s17) (ab_h17 (ag_XF u)) rfl (by decide +kernel) rfl rfl ⟨⟨0, rfl, List.mem_singleton.mpr rfl⟩, ab_top_ok _, trivial⟩ hG
theorem ag_c_leak (hG : ag_K t u h) : am_Ek false am_G0 am_m86 0 (lv_args 0 [.ref 0]) [] am_ks0 h 0 0 (ag_Q t u) := ag_c (s := ab_s19) (ab_h19 (ag_XF u)) rfl (by decide +kernel) rfl rfl ⟨⟨0, rfl, List.mem_singleton.mpr rfl⟩, trivial⟩ hG
theorem ag_c_ever {a0 : Int32} (hG : ag_K t u h) : am_Ek false am_G0 am_m87 0 (lv_args 0 [.ref 0, .int a0]) [] am_ks0 h 0 0 (ag_Q t u) := ag_c (s := ab_s21) (ab_h21 (ag_XF u)) rfl (by decide +kernel) rfl rfl ⟨⟨0, rfl, List.mem_singleton.mpr rfl⟩, ab_top_ok _, trivial⟩ hG
theorem ag_c_best {a0 a1 : Int32} (hG : ag_K t u h) : am_Ek false am_G0 am_m100 0 (lv_args 0 [.ref 0, .int a0, .int a1]) [] am_ks0 h 0 0 (ag_Q t u) := ag_c (s := ab_s23) (ab_h23 (ag_XF u)) rfl (by decide +kernel) rfl rfl ⟨⟨0, rfl, List.mem_singleton.mpr rfl⟩, ab_top_ok _, ab_top_ok _, trivial⟩ hG
theorem ag_c_lasts {a0 a1 : Int32} (hG : ag_K t u h) : am_Ek false am_G0 am_m104 0 (lv_args 0 [.ref 0, .int a0, .int a1]) [] am_ks0 h 0 0 (ag_Q t u) := ag_c (s := ab_s25) (ab_h25 (ag_XF u)) rfl (by decide +kernel) rfl rfl ⟨⟨0, rfl, List.mem_singleton.mpr rfl⟩, ab_top_ok _, ab_top_ok _, trivial⟩ hG
theorem ag_c_firm {a0 a1 : Int32} (hG : ag_K t u h) : am_Ek false am_G0 am_m106 0 (lv_args 0 [.ref 0, .int a0, .int a1]) [] am_ks0 h 0 0 (ag_Q t u) := ag_c (s := ab_s27) (ab_h27 (ag_XF u)) rfl (by decide +kernel) rfl rfl ⟨⟨0, rfl, List.mem_singleton.mpr rfl⟩, ab_top_ok _, ab_top_ok _, trivial⟩ hG
theorem ag_c_up {a0 a1 a2 : Int32} (hG : ag_K t u h) : am_Ek false am_G0 am_m107 0 (lv_args 0 [.ref 0, .int a0, .int a1, .int a2]) [] am_ks0 h 0 0 (ag_Q t u) := ag_c (s := ab_s29) (ab_h29 (ag_XF u)) rfl (by decide +kernel) rfl rfl ⟨⟨0, rfl, List.mem_singleton.mpr rfl⟩, ab_top_ok _, ab_top_ok _, ab_top_ok _, trivial⟩ hG
theorem ag_c_upAt {a0 a1 a2 a3 : Int32} (hG : ag_K t u h) : am_Ek false am_G0 am_m112 0 (lv_args 0 [.ref 0, .int a0, .int a1, .int a2, .int a3]) [] am_ks0 h 0 0 (ag_Q t u) := ag_c (s := ab_s31) (ab_h31 (ag_XF u)) rfl (by decide +kernel) rfl rfl ⟨⟨0, rfl, List.mem_singleton.mpr rfl⟩, ab_top_ok _, ab_top_ok _, ab_top_ok _, ab_top_ok _, trivial⟩ hG
theorem ag_c_cheapest {a0 a1 a2 : Int32} (hG : ag_K t u h) : am_Ek false am_G0 am_m113 0 (lv_args 0 [.ref 0, .int a0, .int a1, .int a2]) [] am_ks0 h 0 0 (ag_Q t u) := ag_c (s := ab_s33) (ab_h33 (ag_XF u)) rfl (by decide +kernel) rfl rfl ⟨⟨0, rfl, List.mem_singleton.mpr rfl⟩, ab_top_ok _, ab_top_ok _, ab_top_ok _, trivial⟩ hG
theorem ag_c_lend {a0 a1 : Int32} (hG : ag_K t u h) : am_Ek false am_G0 am_m114 0 (lv_args 0 [.ref 0, .int a0, .int a1]) [] am_ks0 h 0 0 (ag_Q t u) := ag_c (s := ab_s35) (ab_h35 (ag_XF u)) rfl (by decide +kernel) rfl rfl ⟨⟨0, rfl, List.mem_singleton.mpr rfl⟩, ab_top_ok _, ab_top_ok _, trivial⟩ hG
theorem ag_c_seek {a0 a1 : Int32} (hG : ag_K t u h) : am_Ek false am_G0 am_m115 0 (lv_args 0 [.ref 0, .int a0, .int a1]) [] am_ks0 h 0 0 (ag_Q t u) := ag_c (s := ab_s37) (ab_h37 (ag_XF u)) rfl (by decide +kernel) rfl rfl ⟨⟨0, rfl, List.mem_singleton.mpr rfl⟩, ab_top_ok _, ab_top_ok _, trivial⟩ hG
theorem ag_c_mean {a0 : Int32} (hG : ag_K t u h) : am_Ek false am_G0 am_m118 0 (lv_args 0 [.ref 0, .int a0]) [] am_ks0 h 0 0 (ag_Q t u) := ag_c (s := ab_s39) (ab_h39 (ag_XF u)) rfl (by decide +kernel) rfl rfl ⟨⟨0, rfl, List.mem_singleton.mpr rfl⟩, ab_top_ok _, trivial⟩ hG
theorem ag_c_rule {a0 : Int32} (hG : ag_K t u h) : am_Ek false am_G0 am_m122 0 (lv_args 0 [.ref 0, .int a0]) [] am_ks0 h 0 0 (ag_Q t u) := ag_c (s := ab_s41) (ab_h41 (ag_XF u)) rfl (by decide +kernel) rfl rfl ⟨⟨0, rfl, List.mem_singleton.mpr rfl⟩, ab_top_ok _, trivial⟩ hG
theorem ag_c_fairest (hG : ag_K t u h) : am_Ek false am_G0 am_m124 0 (lv_args 0 [.ref 0]) [] am_ks0 h 0 0 (ag_Q t u) := ag_c (s := ab_s43) (ab_h43 (ag_XF u)) rfl (by decide +kernel) rfl rfl ⟨⟨0, rfl, List.mem_singleton.mpr rfl⟩, trivial⟩ hG
theorem ag_c_cheek {a0 a1 a2 a3 : Int32} (hG : ag_K t u h) (b0 : 0 ≤ a3.toInt) (b1 : a3.toInt ≤ 1) : am_Ek false am_G0 am_m125 0 (lv_args 0 [.ref 0, .int a0, .int a1, .int a2, .int a3]) [] am_ks0 h 0 0 (ag_Q t u) := ag_c (s := ab_s45) (ab_h45 (ag_XF u)) rfl (by decide +kernel) rfl rfl ⟨⟨0, rfl, List.mem_singleton.mpr rfl⟩, ab_top_ok _, ab_top_ok _, ab_top_ok _, ab_i_ok b0 b1, trivial⟩ hG
theorem ag_c_strike {a0 : Int32} (hG : ag_K t u h) : am_Ek false am_G0 am_m127 0 (lv_args 0 [.ref 0, .int a0]) [] am_ks0 h 0 0 (ag_Q t u) := ag_c (s := ab_s47) (ab_h47 (ag_XF u)) rfl (by decide +kernel) rfl rfl ⟨⟨0, rfl, List.mem_singleton.mpr rfl⟩, ab_top_ok _, trivial⟩ hG
theorem ag_c_known {a0 : Int32} (hG : ag_K t u h) : am_Ek false am_G0 am_m128 0 (lv_args 0 [.ref 0, .int a0]) [] am_ks0 h 0 0 (ag_Q t u) := ag_c (s := ab_s49) (ab_h49 (ag_XF u)) rfl (by decide +kernel) rfl rfl ⟨⟨0, rfl, List.mem_singleton.mpr rfl⟩, ab_top_ok _, trivial⟩ hG
theorem ag_c_fits (hG : ag_K t u h) : am_Ek false am_G0 am_m129 0 (lv_args 0 [.ref 0]) [] am_ks0 h 0 0 (ag_Q t u) := ag_c (s := ab_s51) (ab_h51 (ag_XF u)) rfl (by decide +kernel) rfl rfl ⟨⟨0, rfl, List.mem_singleton.mpr rfl⟩, trivial⟩ hG
theorem ag_c_chance {a0 a1 a2 : Int32} (hG : ag_K t u h) : am_Ek false am_G0 am_m135 0 (lv_args 0 [.ref 0, .int a0, .int a1, .int a2]) [] am_ks0 h 0 0 (ag_Q t u) := ag_c (s := ab_s53) (ab_h53 (ag_XF u)) rfl (by decide +kernel) rfl rfl ⟨⟨0, rfl, List.mem_singleton.mpr rfl⟩, ab_top_ok _, ab_top_ok _, ab_top_ok _, trivial⟩ hG
theorem ag_c_tried {a0 a1 a2 : Int32} (hG : ag_K t u h) : am_Ek false am_G0 am_m136 0 (lv_args 0 [.ref 0, .int a0, .int a1, .int a2]) [] am_ks0 h 0 0 (ag_Q t u) := ag_c (s := ab_s55) (ab_h55 (ag_XF u)) rfl (by decide +kernel) rfl rfl ⟨⟨0, rfl, List.mem_singleton.mpr rfl⟩, ab_top_ok _, ab_top_ok _, ab_top_ok _, trivial⟩ hG
theorem ag_c_undo (hG : ag_K t u h) : am_Ek false am_G0 am_m137 0 (lv_args 0 [.ref 0]) [] am_ks0 h 0 0 (ag_Q t u) := ag_c (s := ab_s57) (ab_h57 (ag_XF u)) rfl (by decide +kernel) rfl rfl ⟨⟨0, rfl, List.mem_singleton.mpr rfl⟩, trivial⟩ hG
theorem ag_c_keep (hG : ag_K t u h) : am_Ek false am_G0 am_m139 0 (lv_args 0 [.ref 0]) [] am_ks0 h 0 0 (ag_Q t u) := ag_c (s := ab_s59) (ab_h59 (ag_XF u)) rfl (by decide +kernel) rfl rfl ⟨⟨0, rfl, List.mem_singleton.mpr rfl⟩, trivial⟩ hG
theorem ag_c_back (hG : ag_K t u h) : am_Ek false am_G0 am_m140 0 (lv_args 0 [.ref 0]) [] am_ks0 h 0 0 (ag_Q t u) := ag_c (s := ab_s61) (ab_h61 (ag_XF u)) rfl (by decide +kernel) rfl rfl ⟨⟨0, rfl, List.mem_singleton.mpr rfl⟩, trivial⟩ hG
theorem ag_c_count {a0 : Int32} (hG : ag_K t u h) : am_Ek false am_G0 am_m141 0 (lv_args 0 [.ref 0, .int a0]) [] am_ks0 h 0 0 (ag_Q t u) := ag_c (s := ab_s63) (ab_h63 (ag_XF u)) rfl (by decide +kernel) rfl rfl ⟨⟨0, rfl, List.mem_singleton.mpr rfl⟩, ab_top_ok _, trivial⟩ hG
theorem ag_m_fault {a0 : Int32} (hG : ag_K t u h) : am_Ek false am_G0 am_m182 0 (lv_args 0 [.ref 164, .int a0]) [] am_ks0 h 0 0 (ag_Q t u) := ag_m (s := ab_s5) (ac_h5 (ag_mX t)) rfl rfl rfl rfl ⟨⟨164, rfl, List.mem_singleton.mpr rfl⟩, ab_top_ok _, trivial⟩ hG
theorem ag_m_named {a0 a1 : Int32} (hG : ag_K t u h) : am_Ek false am_G0 am_m183 0 (lv_args 0 [.ref 164, .int a0, .int a1]) [] am_ks0 h 0 0 (ag_Q t u) := ag_m (s := ab_s7) (ac_h7 (ag_mX t)) rfl rfl rfl rfl ⟨⟨164, rfl, List.mem_singleton.mpr rfl⟩, ab_top_ok _, ab_top_ok _, trivial⟩ hG
theorem ag_m_law {a0 a1 : Int32} (hG : ag_K t u h) : am_Ek false am_G0 am_m187 0 (lv_args 0 [.ref 164, .int a0, .int a1]) [] am_ks0 h 0 0 (ag_QL t u) := ag_ml (s := ab_s10) (ac_h10 (ag_mX t)) rfl rfl rfl rfl ⟨⟨164, rfl, List.mem_singleton.mpr rfl⟩, ab_top_ok _, ab_top_ok _, trivial⟩ hG
theorem ag_m_blow {a0 a1 : Int32} (hG : ag_K t u h) : am_Ek false am_G0 am_m196 0 (lv_args 0 [.ref 164, .int a0, .int a1]) [] am_ks0 h 0 0 (ag_Q t u) := ag_m (s := ab_s12) (ac_h12 (ag_mX t)) rfl rfl rfl rfl ⟨⟨164, rfl, List.mem_singleton.mpr rfl⟩, ab_top_ok _, ab_top_ok _, trivial⟩ hG
theorem ag_m_waits {a0 a1 : Int32} (hG : ag_K t u h) (b0 : 0 ≤ a1.toInt) (b1 : a1.toInt ≤ 1) : am_Ek false am_G0 am_m209 0 (lv_args 0 [.ref 164, .int a0, .int a1]) [] am_ks0 h 0 0 (ag_Q t u) := ag_m (s := ab_s14) (ac_h14 (ag_mX t)) rfl rfl rfl rfl ⟨⟨164, rfl, List.mem_singleton.mpr rfl⟩, ab_top_ok _, ab_i_ok b0 b1, trivial⟩ hG
theorem ag_m_pump {a0 : Int32} (hG : ag_K t u h) : am_Ek false am_G0 am_m210 0 (lv_args 0 [.ref 164, .int a0]) [] am_ks0 h 0 0 (ag_Q t u) := ag_m (s := ab_s16) (ac_h16 (ag_mX t)) rfl rfl rfl rfl ⟨⟨164, rfl, List.mem_singleton.mpr rfl⟩, ab_top_ok _, trivial⟩ hG
theorem ag_m_patch {a0 : Int32} (hG : ag_K t u h) : am_Ek false am_G0 am_m211 0 (lv_args 0 [.ref 164, .int a0]) [] am_ks0 h 0 0 (ag_Q t u) := ag_m (s := ab_s18) (ac_h18 (ag_mX t)) rfl rfl rfl rfl ⟨⟨164, rfl, List.mem_singleton.mpr rfl⟩, ab_top_ok _, trivial⟩ hG
theorem ag_m_leak (hG : ag_K t u h) : am_Ek false am_G0 am_m212 0 (lv_args 0 [.ref 164]) [] am_ks0 h 0 0 (ag_Q t u) := ag_m (s := ab_s20) (ac_h20 (ag_mX t)) rfl rfl rfl rfl ⟨⟨164, rfl, List.mem_singleton.mpr rfl⟩, trivial⟩ hG
theorem ag_m_ever {a0 : Int32} (hG : ag_K t u h) : am_Ek false am_G0 am_m213 0 (lv_args 0 [.ref 164, .int a0]) [] am_ks0 h 0 0 (ag_Q t u) := ag_o (fun a b => (ac_ever (ag_mX t) (ac_SCs (ag_mX t)) (ac_h191 (ag_mX t)) a b)) rfl hG
theorem ag_m_best {a0 a1 : Int32} (hG : ag_K t u h) : am_Ek false am_G0 am_m217 0 (lv_args 0 [.ref 164, .int a0, .int a1]) [] am_ks0 h 0 0 (ag_Q t u) := ag_m (s := ab_s24) (ac_h24 (ag_mX t)) rfl rfl rfl rfl ⟨⟨164, rfl, List.mem_singleton.mpr rfl⟩, ab_top_ok _, ab_top_ok _, trivial⟩ hG
theorem ag_m_lasts {a0 a1 : Int32} (hG : ag_K t u h) : am_Ek false am_G0 am_m223 0 (lv_args 0 [.ref 164, .int a0, .int a1]) [] am_ks0 h 0 0 (ag_Q t u) := ag_m (s := ab_s26) (ac_h26 (ag_mX t)) rfl rfl rfl rfl ⟨⟨164, rfl, List.mem_singleton.mpr rfl⟩, ab_top_ok _, ab_top_ok _, trivial⟩ hG
theorem ag_m_firm {a0 a1 : Int32} (hG : ag_K t u h) : am_Ek false am_G0 am_m225 0 (lv_args 0 [.ref 164, .int a0, .int a1]) [] am_ks0 h 0 0 (ag_Q t u) := ag_m (s := ab_s28) (ac_h28 (ag_mX t)) rfl rfl rfl rfl ⟨⟨164, rfl, List.mem_singleton.mpr rfl⟩, ab_top_ok _, ab_top_ok _, trivial⟩ hG
theorem ag_m_up {a0 a1 a2 : Int32} (hG : ag_K t u h) : am_Ek false am_G0 am_m226 0 (lv_args 0 [.ref 164, .int a0, .int a1, .int a2]) [] am_ks0 h 0 0 (ag_Q t u) := ag_o (fun a b => (ac_up (ag_mX t) (ac_SCs (ag_mX t)) (ac_h201 (ag_mX t)) a b)) rfl hG
theorem ag_m_upAt {a0 a1 a2 a3 : Int32} (hG : ag_K t u h) : am_Ek false am_G0 am_m230 0 (lv_args 0 [.ref 164, .int a0, .int a1, .int a2, .int a3]) [] am_ks0 h 0 0 (ag_Q t u) := ag_o (fun a b => (ac_upAt (ag_mX t) (ac_SCs (ag_mX t)) (ac_h201 (ag_mX t)) a b)) rfl hG
theorem ag_m_cheapest {a0 a1 a2 : Int32} (hG : ag_K t u h) : am_Ek false am_G0 am_m231 0 (lv_args 0 [.ref 164, .int a0, .int a1, .int a2]) [] am_ks0 h 0 0 (ag_Q t u) := ag_o (fun a b => (ac_cheapest (ag_mX t) (ac_SCs (ag_mX t)) (ac_h201 (ag_mX t)) a b (ac_h160 (ag_mX t)))) rfl hG
theorem ag_m_lend {a0 a1 : Int32} (hG : ag_K t u h) : am_Ek false am_G0 am_m232 0 (lv_args 0 [.ref 164, .int a0, .int a1]) [] am_ks0 h 0 0 (ag_Q t u) := ag_m (s := ab_s36) (ac_h36 (ag_mX t)) rfl rfl rfl rfl ⟨⟨164, rfl, List.mem_singleton.mpr rfl⟩, ab_top_ok _, ab_top_ok _, trivial⟩ hG
theorem ag_m_seek {a0 a1 : Int32} (hG : ag_K t u h) : am_Ek false am_G0 am_m233 0 (lv_args 0 [.ref 164, .int a0, .int a1]) [] am_ks0 h 0 0 (ag_Q t u) := ag_m (s := ab_s38) (ac_h38 (ag_mX t)) rfl rfl rfl rfl ⟨⟨164, rfl, List.mem_singleton.mpr rfl⟩, ab_top_ok _, ab_top_ok _, trivial⟩ hG
theorem ag_m_mean {a0 : Int32} (hG : ag_K t u h) : am_Ek false am_G0 am_m234 0 (lv_args 0 [.ref 164, .int a0]) [] am_ks0 h 0 0 (ag_Q t u) := ag_m (s := ab_s40) (ac_h40 (ag_mX t)) rfl rfl rfl rfl ⟨⟨164, rfl, List.mem_singleton.mpr rfl⟩, ab_top_ok _, trivial⟩ hG
theorem ag_m_rule {a0 : Int32} (hG : ag_K t u h) : am_Ek false am_G0 am_m236 0 (lv_args 0 [.ref 164, .int a0]) [] am_ks0 h 0 0 (ag_Q t u) := ag_o (fun a b => (ac_rule (ag_mX t) (ac_SCs (ag_mX t)) (ac_h191 (ag_mX t)) a b)) rfl hG
theorem ag_m_fairest (hG : ag_K t u h) : am_Ek false am_G0 am_m239 0 (lv_args 0 [.ref 164]) [] am_ks0 h 0 0 (ag_Q t u) := ag_o (fun a b => (ac_fairest (ag_mX t) (ac_SCs (ag_mX t)) (ac_h191 (ag_mX t)) a b)) rfl hG
theorem ag_m_cheek {a0 a1 a2 a3 : Int32} (hG : ag_K t u h) (b0 : 0 ≤ a3.toInt) (b1 : a3.toInt ≤ 1) : am_Ek false am_G0 am_m240 0 (lv_args 0 [.ref 164, .int a0, .int a1, .int a2, .int a3]) [] am_ks0 h 0 0 (ag_Q t u) := ag_o (fun a b => (ac_cheek (ag_mX t) (ac_h265 (ag_mX t)) (ac_h203 (ag_mX t)) a b)) rfl hG
theorem ag_m_strike {a0 : Int32} (hG : ag_K t u h) : am_Ek false am_G0 am_m242 0 (lv_args 0 [.ref 164, .int a0]) [] am_ks0 h 0 0 (ag_Q t u) := ag_o (fun a b => (ac_strike (ag_mX t) a b)) rfl hG
theorem ag_m_known {a0 : Int32} (hG : ag_K t u h) : am_Ek false am_G0 am_m243 0 (lv_args 0 [.ref 164, .int a0]) [] am_ks0 h 0 0 (ag_Q t u) := ag_m (s := ab_s50) (ac_h50 (ag_mX t)) rfl rfl rfl rfl ⟨⟨164, rfl, List.mem_singleton.mpr rfl⟩, ab_top_ok _, trivial⟩ hG
theorem ag_m_fits (hG : ag_K t u h) : am_Ek false am_G0 am_m244 0 (lv_args 0 [.ref 164]) [] am_ks0 h 0 0 (ag_Q t u) := ag_m (s := ab_s52) (ac_h52 (ag_mX t)) rfl rfl rfl rfl ⟨⟨164, rfl, List.mem_singleton.mpr rfl⟩, trivial⟩ hG
theorem ag_m_chance {a0 a1 a2 : Int32} (hG : ag_K t u h) : am_Ek false am_G0 am_m247 0 (lv_args 0 [.ref 164, .int a0, .int a1, .int a2]) [] am_ks0 h 0 0 (ag_Q t u) := ag_m (s := ab_s54) (ac_h54 (ag_mX t)) rfl rfl rfl rfl ⟨⟨164, rfl, List.mem_singleton.mpr rfl⟩, ab_top_ok _, ab_top_ok _, ab_top_ok _, trivial⟩ hG
theorem ag_m_tried {a0 a1 a2 : Int32} (hG : ag_K t u h) : am_Ek false am_G0 am_m248 0 (lv_args 0 [.ref 164, .int a0, .int a1, .int a2]) [] am_ks0 h 0 0 (ag_Q t u) := ag_m (s := ab_s56) (ac_h56 (ag_mX t)) rfl rfl rfl rfl ⟨⟨164, rfl, List.mem_singleton.mpr rfl⟩, ab_top_ok _, ab_top_ok _, ab_top_ok _, trivial⟩ hG
theorem ag_m_undo (hG : ag_K t u h) : am_Ek false am_G0 am_m249 0 (lv_args 0 [.ref 164]) [] am_ks0 h 0 0 (ag_Q t u) := ag_o (fun a b => (ac_undo (ag_mX t) a b)) rfl hG
theorem ag_m_keep (hG : ag_K t u h) : am_Ek false am_G0 am_m251 0 (lv_args 0 [.ref 164]) [] am_ks0 h 0 0 (ag_Q t u) := ag_m (s := ab_s60) (ac_h60 (ag_mX t)) rfl rfl rfl rfl ⟨⟨164, rfl, List.mem_singleton.mpr rfl⟩, trivial⟩ hG
theorem ag_m_back (hG : ag_K t u h) : am_Ek false am_G0 am_m252 0 (lv_args 0 [.ref 164]) [] am_ks0 h 0 0 (ag_Q t u) := ag_m (s := ab_s62) (ac_h62 (ag_mX t)) rfl rfl rfl rfl ⟨⟨164, rfl, List.mem_singleton.mpr rfl⟩, trivial⟩ hG
theorem ag_m_count {a0 : Int32} (hG : ag_K t u h) : am_Ek false am_G0 am_m253 0 (lv_args 0 [.ref 164, .int a0]) [] am_ks0 h 0 0 (ag_Q t u) := ag_m (s := ab_s64) (ac_h64 (ag_mX t)) rfl rfl rfl rfl ⟨⟨164, rfl, List.mem_singleton.mpr rfl⟩, ab_top_ok _, trivial⟩ hG
theorem ag_m_look {a0 a1 : Int32} (hG : ag_K t u h) : am_Ek false am_G0 am_m184 0 (lv_args 0 [.ref 164, .int a0, .int a1]) [] am_ks0 h 0 0 (ag_Q t u) := ag_m (s := ab_s8) (ac_h8 (ag_mX t)) rfl rfl rfl rfl ⟨⟨164, rfl, List.mem_singleton.mpr rfl⟩, ab_top_ok _, ab_top_ok _, trivial⟩ hG
end AGP
