/-! ===== THE PROGRAM'S TABLES HOLD: checks that the kernel runs ===== -/
def am_w (i : Nat) (w : Cond) : Bool := decide (lw_tbl[i]? = some w) && goodWord w
theorem am_w_ok {i : Nat} {w : Cond} (h : am_w i w = true) : w ∈ am_ts := by
  simp only [am_w, Bool.and_eq_true, decide_eq_true_eq] at h
  exact am_ts_in h.1 h.2
def am_wF (i : Nat) (own : String) (idx : Nat) (q : String × String × String × Bool) : Bool := match lw_tbl[i]? with
  | some (.fieldLink o j r n d) => decide (o = own) && decide (j = idx) && decide (r = q.1) && decide (n = q.2.1) && decide (d = q.2.2.1) && goodWord (.fieldLink o j r n d)
  | some (.fieldLinkNest o j r n d host) => decide (o = own) && decide (j = idx) && decide (r = q.1) && decide (n = q.2.1) && decide (d = q.2.2.1)
  | _ => false
theorem am_wF_ok {i : Nat} {own : String} {idx : Nat} {q : String × String × String × Bool} (h : am_wF i own idx q = true) : am_fl own idx q := by
  unfold am_wF at h
  split at h
  · rename_i o j r n d hw
    simp only [Bool.and_eq_true, decide_eq_true_eq] at h
    obtain ⟨⟨⟨⟨⟨rfl, rfl⟩, rfl⟩, rfl⟩, rfl⟩, hg⟩ := h
    exact Or.inl (am_ts_in hw hg)
  · rename_i o j r n d host hw
    simp only [Bool.and_eq_true, decide_eq_true_eq] at h
    obtain ⟨⟨⟨⟨rfl, rfl⟩, rfl⟩, rfl⟩, rfl⟩ := h
    exact Or.inr ⟨host, am_tn_in hw rfl⟩
  · cases h
def am_wM (i : Nat) (own : String) (idx : Nat) (y : MethodName) : Bool := match lw_tbl[i]? with
  | some (.methodLink o j r) => decide (o = own) && decide (j = idx) && decide (r = y) && goodWord (.methodLink o j r)
  | some (.methodLinkNest o j r host) => decide (o = own) && decide (j = idx) && decide (r = y)
  | _ => false
theorem am_wM_ok {i : Nat} {own : String} {idx : Nat} {y : MethodName} (h : am_wM i own idx y = true) : am_ml own idx y := by
  unfold am_wM at h
  split at h
  · rename_i o j r hw
    simp only [Bool.and_eq_true, decide_eq_true_eq] at h
    obtain ⟨⟨⟨rfl, rfl⟩, rfl⟩, hg⟩ := h
    exact Or.inl (am_ts_in hw hg)
  · rename_i o j r host hw
    simp only [Bool.and_eq_true, decide_eq_true_eq] at h
    obtain ⟨⟨rfl, rfl⟩, rfl⟩ := h
    exact Or.inr ⟨host, am_tn_in hw rfl⟩
  · cases h
def am_mL : am_M := ((13, ⟨"AirBedLaw", "look", "(LAirBed;II[J)I"⟩, method_3_code), (5, some .int, 4), (9, 240, 4, 40), [])
def am_P1 (scr : Option (Nat × (Nat → Int32))) (lk : List Value → List am_k → am_H → Option am_O) : am_G := (fun a => am_prog[a]?, am_tys, am_nms, am_txt, scr, am_mL, lk)
/-- what is checked of a method -/
def am_chkM (a : Nat) : Bool := match am_prog[a]?, am_hint[a]? with
  | some M, some h => am_w h.2.1 (Cond.initialized M.1.2.1.cls) && decide (M.1.2.1.cls ≠ "java/lang/invoke/MethodHandle") && decide (M.1.2.1.cls ≠ "java/lang/invoke/VarHandle") && decide ((parseMethodDescriptor M.1.2.1.desc).map (fun d => d.parameters.length) = some M.2.1.2.2)
      && plainName M.1.2.1.cls && decide (am_nms M.1.1 = M.1.2.1.cls) && decide ((M.2.2.2.head?.map (fun i => i.1)) = some 0)
      && cond h.2.2.2.2 (am_w h.2.2.1 (Cond.static M.1.2.1)) (am_w h.2.2.1 (Cond.instanceMethod M.1.2.1) && (decide (M.1.2.1.name = "<init>" ∧ M.2.1.2.1 = none) || am_w h.2.2.2.1 (Cond.selects M.1.2.1.cls M.1.2.1 M.1.2.1)))
  | none, _ => true
  | _, _ => false
def am_facts (a : Nat) (M : am_M) : Prop := (∀ scr lk, am_okM (am_P1 scr lk) M) ∧ ((M.2.2.2.head?.map (fun i => i.1)) = some 0) ∧ ∃ h, am_hint[a]? = some h ∧ (h.2.2.2.2 = true → Cond.static M.1.2.1 ∈ am_ts) ∧ (h.2.2.2.2 = false → Cond.instanceMethod M.1.2.1 ∈ am_ts ∧ ((M.1.2.1.name = "<init>" ∧ M.2.1.2.1 = none) ∨ Cond.selects M.1.2.1.cls M.1.2.1 M.1.2.1 ∈ am_ts))
theorem am_chkM_ok {a : Nat} (h : am_chkM a = true) {M : am_M} (hM : am_prog[a]? = some M) (c1 : Cond.code M.1.2.1 M.1.2.2 M.2.1.1 M.2.1.2.1 ∈ am_ts) : am_facts a M := by
  unfold am_chkM at h
  rw [hM] at h
  split at h
  · rename_i M0 hn h1 h2
    cases h1
    simp only [Bool.and_eq_true, decide_eq_true_eq] at h
    obtain ⟨⟨⟨⟨⟨⟨⟨c2, c3⟩, c4⟩, c5⟩, c6⟩, c7⟩, c8⟩, c9⟩ := h
    refine ⟨fun _ _ => ⟨c1, am_w_ok c2, ⟨c3, c4, c5⟩, c6, c7⟩, c8, hn, h2, fun hs => ?_, fun hs => ?_⟩
    · rw [hs] at c9
      exact am_w_ok c9
    · rw [hs] at c9
      simp only [cond_false, Bool.and_eq_true, Bool.or_eq_true, decide_eq_true_eq] at c9
      exact ⟨am_w_ok c9.1, c9.2.imp id am_w_ok⟩
  · rename_i h1
    cases h1
  · cases h
def am_hh : List (Nat × Nat × Nat × Nat) := [(0, 10, 13, 13), (0, 10, 17, 15)]
set_option maxRecDepth 1000000 in
theorem am_cw0 : Cond.code am_m0.1.2.1 am_m0.1.2.2 am_m0.2.1.1 am_m0.2.1.2.1 ∈ am_ts := am_ts_in (i := 145) rfl rfl
set_option maxRecDepth 1000000 in
theorem am_cw1 : Cond.code am_m1.1.2.1 am_m1.1.2.2 am_m1.2.1.1 am_m1.2.1.2.1 ∈ am_ts := am_ts_in (i := 153) rfl rfl
set_option maxRecDepth 1000000 in
theorem am_cw2 : Cond.code am_m2.1.2.1 am_m2.1.2.2 am_m2.2.1.1 am_m2.2.1.2.1 ∈ am_ts := am_ts_in (i := 161) rfl rfl
set_option maxRecDepth 1000000 in
theorem am_cw3 : Cond.code am_m3.1.2.1 am_m3.1.2.2 am_m3.2.1.1 am_m3.2.1.2.1 ∈ am_ts := am_ts_in (i := 201) rfl rfl
set_option maxRecDepth 1000000 in
theorem am_cw4 : Cond.code am_m4.1.2.1 am_m4.1.2.2 am_m4.2.1.1 am_m4.2.1.2.1 ∈ am_ts := am_ts_in (i := 243) rfl rfl
set_option maxRecDepth 1000000 in
theorem am_cw5 : Cond.code am_m5.1.2.1 am_m5.1.2.2 am_m5.2.1.1 am_m5.2.1.2.1 ∈ am_ts := am_ts_in (i := 247) rfl rfl
set_option maxRecDepth 1000000 in
theorem am_cw6 : Cond.code am_m6.1.2.1 am_m6.1.2.2 am_m6.2.1.1 am_m6.2.1.2.1 ∈ am_ts := am_ts_in (i := 363) rfl rfl
set_option maxRecDepth 1000000 in
theorem am_cw7 : Cond.code am_m7.1.2.1 am_m7.1.2.2 am_m7.2.1.1 am_m7.2.1.2.1 ∈ am_ts := am_ts_in (i := 460) rfl rfl
set_option maxRecDepth 1000000 in
theorem am_cw8 : Cond.code am_m8.1.2.1 am_m8.1.2.2 am_m8.2.1.1 am_m8.2.1.2.1 ∈ am_ts := am_ts_in (i := 508) rfl rfl
set_option maxRecDepth 1000000 in
theorem am_cw9 : Cond.code am_m9.1.2.1 am_m9.1.2.2 am_m9.2.1.1 am_m9.2.1.2.1 ∈ am_ts := am_ts_in (i := 528) rfl rfl
set_option maxRecDepth 1000000 in
theorem am_cw10 : Cond.code am_m10.1.2.1 am_m10.1.2.2 am_m10.2.1.1 am_m10.2.1.2.1 ∈ am_ts := am_ts_in (i := 562) rfl rfl
set_option maxRecDepth 1000000 in
theorem am_cw11 : Cond.code am_m11.1.2.1 am_m11.1.2.2 am_m11.2.1.1 am_m11.2.1.2.1 ∈ am_ts := am_ts_in (i := 602) rfl rfl
set_option maxRecDepth 1000000 in
theorem am_cw12 : Cond.code am_m12.1.2.1 am_m12.1.2.2 am_m12.2.1.1 am_m12.2.1.2.1 ∈ am_ts := am_ts_in (i := 620) rfl rfl
set_option maxRecDepth 1000000 in
theorem am_cw13 : Cond.code am_m13.1.2.1 am_m13.1.2.2 am_m13.2.1.1 am_m13.2.1.2.1 ∈ am_ts := am_ts_in (i := 640) rfl rfl
set_option maxRecDepth 1000000 in
theorem am_cw14 : Cond.code am_m14.1.2.1 am_m14.1.2.2 am_m14.2.1.1 am_m14.2.1.2.1 ∈ am_ts := am_ts_in (i := 660) rfl rfl
set_option maxRecDepth 1000000 in
theorem am_cw15 : Cond.code am_m15.1.2.1 am_m15.1.2.2 am_m15.2.1.1 am_m15.2.1.2.1 ∈ am_ts := am_ts_in (i := 713) rfl rfl
set_option maxRecDepth 1000000 in
theorem am_cw16 : Cond.code am_m16.1.2.1 am_m16.1.2.2 am_m16.2.1.1 am_m16.2.1.2.1 ∈ am_ts := am_ts_in (i := 717) rfl rfl
set_option maxRecDepth 1000000 in
theorem am_cw17 : Cond.code am_m17.1.2.1 am_m17.1.2.2 am_m17.2.1.1 am_m17.2.1.2.1 ∈ am_ts := am_ts_in (i := 721) rfl rfl
set_option maxRecDepth 1000000 in
theorem am_cw18 : Cond.code am_m18.1.2.1 am_m18.1.2.2 am_m18.2.1.1 am_m18.2.1.2.1 ∈ am_ts := am_ts_in (i := 725) rfl rfl
set_option maxRecDepth 1000000 in
theorem am_cw19 : Cond.code am_m19.1.2.1 am_m19.1.2.2 am_m19.2.1.1 am_m19.2.1.2.1 ∈ am_ts := am_ts_in (i := 730) rfl rfl
set_option maxRecDepth 1000000 in
theorem am_cw20 : Cond.code am_m20.1.2.1 am_m20.1.2.2 am_m20.2.1.1 am_m20.2.1.2.1 ∈ am_ts := am_ts_in (i := 792) rfl rfl
set_option maxRecDepth 1000000 in
theorem am_cw21 : Cond.code am_m21.1.2.1 am_m21.1.2.2 am_m21.2.1.1 am_m21.2.1.2.1 ∈ am_ts := am_ts_in (i := 812) rfl rfl
set_option maxRecDepth 1000000 in
theorem am_cw22 : Cond.code am_m22.1.2.1 am_m22.1.2.2 am_m22.2.1.1 am_m22.2.1.2.1 ∈ am_ts := am_ts_in (i := 875) rfl rfl
set_option maxRecDepth 1000000 in
theorem am_cw23 : Cond.code am_m23.1.2.1 am_m23.1.2.2 am_m23.2.1.1 am_m23.2.1.2.1 ∈ am_ts := am_ts_in (i := 878) rfl rfl
set_option maxRecDepth 1000000 in
theorem am_cw24 : Cond.code am_m24.1.2.1 am_m24.1.2.2 am_m24.2.1.1 am_m24.2.1.2.1 ∈ am_ts := am_ts_in (i := 884) rfl rfl
set_option maxRecDepth 1000000 in
theorem am_cw25 : Cond.code am_m25.1.2.1 am_m25.1.2.2 am_m25.2.1.1 am_m25.2.1.2.1 ∈ am_ts := am_ts_in (i := 889) rfl rfl
set_option maxRecDepth 1000000 in
theorem am_cw26 : Cond.code am_m26.1.2.1 am_m26.1.2.2 am_m26.2.1.1 am_m26.2.1.2.1 ∈ am_ts := am_ts_in (i := 893) rfl rfl
set_option maxRecDepth 1000000 in
theorem am_cw27 : Cond.code am_m27.1.2.1 am_m27.1.2.2 am_m27.2.1.1 am_m27.2.1.2.1 ∈ am_ts := am_ts_in (i := 897) rfl rfl
set_option maxRecDepth 1000000 in
theorem am_cw28 : Cond.code am_m28.1.2.1 am_m28.1.2.2 am_m28.2.1.1 am_m28.2.1.2.1 ∈ am_ts := am_ts_in (i := 901) rfl rfl
set_option maxRecDepth 1000000 in
theorem am_cw29 : Cond.code am_m29.1.2.1 am_m29.1.2.2 am_m29.2.1.1 am_m29.2.1.2.1 ∈ am_ts := am_ts_in (i := 907) rfl rfl
set_option maxRecDepth 1000000 in
theorem am_cw30 : Cond.code am_m30.1.2.1 am_m30.1.2.2 am_m30.2.1.1 am_m30.2.1.2.1 ∈ am_ts := am_ts_in (i := 910) rfl rfl
set_option maxRecDepth 1000000 in
theorem am_cw31 : Cond.code am_m31.1.2.1 am_m31.1.2.2 am_m31.2.1.1 am_m31.2.1.2.1 ∈ am_ts := am_ts_in (i := 915) rfl rfl
set_option maxRecDepth 1000000 in
theorem am_cw32 : Cond.code am_m32.1.2.1 am_m32.1.2.2 am_m32.2.1.1 am_m32.2.1.2.1 ∈ am_ts := am_ts_in (i := 919) rfl rfl
set_option maxRecDepth 1000000 in
theorem am_cw33 : Cond.code am_m33.1.2.1 am_m33.1.2.2 am_m33.2.1.1 am_m33.2.1.2.1 ∈ am_ts := am_ts_in (i := 924) rfl rfl
set_option maxRecDepth 1000000 in
theorem am_cw34 : Cond.code am_m34.1.2.1 am_m34.1.2.2 am_m34.2.1.1 am_m34.2.1.2.1 ∈ am_ts := am_ts_in (i := 928) rfl rfl
set_option maxRecDepth 1000000 in
theorem am_cw35 : Cond.code am_m35.1.2.1 am_m35.1.2.2 am_m35.2.1.1 am_m35.2.1.2.1 ∈ am_ts := am_ts_in (i := 937) rfl rfl
set_option maxRecDepth 1000000 in
theorem am_cw36 : Cond.code am_m36.1.2.1 am_m36.1.2.2 am_m36.2.1.1 am_m36.2.1.2.1 ∈ am_ts := am_ts_in (i := 942) rfl rfl
set_option maxRecDepth 1000000 in
theorem am_cw37 : Cond.code am_m37.1.2.1 am_m37.1.2.2 am_m37.2.1.1 am_m37.2.1.2.1 ∈ am_ts := am_ts_in (i := 946) rfl rfl
set_option maxRecDepth 1000000 in
theorem am_cw38 : Cond.code am_m38.1.2.1 am_m38.1.2.2 am_m38.2.1.1 am_m38.2.1.2.1 ∈ am_ts := am_ts_in (i := 968) rfl rfl
set_option maxRecDepth 1000000 in
theorem am_cw39 : Cond.code am_m39.1.2.1 am_m39.1.2.2 am_m39.2.1.1 am_m39.2.1.2.1 ∈ am_ts := am_ts_in (i := 995) rfl rfl
set_option maxRecDepth 1000000 in
theorem am_cw40 : Cond.code am_m40.1.2.1 am_m40.1.2.2 am_m40.2.1.1 am_m40.2.1.2.1 ∈ am_ts := am_ts_in (i := 999) rfl rfl
set_option maxRecDepth 1000000 in
theorem am_cw41 : Cond.code am_m41.1.2.1 am_m41.1.2.2 am_m41.2.1.1 am_m41.2.1.2.1 ∈ am_ts := am_ts_in (i := 1006) rfl rfl
set_option maxRecDepth 1000000 in
theorem am_cw42 : Cond.code am_m42.1.2.1 am_m42.1.2.2 am_m42.2.1.1 am_m42.2.1.2.1 ∈ am_ts := am_ts_in (i := 1011) rfl rfl
set_option maxRecDepth 1000000 in
theorem am_cw43 : Cond.code am_m43.1.2.1 am_m43.1.2.2 am_m43.2.1.1 am_m43.2.1.2.1 ∈ am_ts := am_ts_in (i := 1015) rfl rfl
set_option maxRecDepth 1000000 in
theorem am_cw44 : Cond.code am_m44.1.2.1 am_m44.1.2.2 am_m44.2.1.1 am_m44.2.1.2.1 ∈ am_ts := am_ts_in (i := 1020) rfl rfl
set_option maxRecDepth 1000000 in
theorem am_cw45 : Cond.code am_m45.1.2.1 am_m45.1.2.2 am_m45.2.1.1 am_m45.2.1.2.1 ∈ am_ts := am_ts_in (i := 1024) rfl rfl
set_option maxRecDepth 1000000 in
theorem am_cw46 : Cond.code am_m46.1.2.1 am_m46.1.2.2 am_m46.2.1.1 am_m46.2.1.2.1 ∈ am_ts := am_ts_in (i := 1083) rfl rfl
set_option maxRecDepth 1000000 in
theorem am_cw47 : Cond.code am_m47.1.2.1 am_m47.1.2.2 am_m47.2.1.1 am_m47.2.1.2.1 ∈ am_ts := am_ts_in (i := 1103) rfl rfl
set_option maxRecDepth 1000000 in
theorem am_cw48 : Cond.code am_m48.1.2.1 am_m48.1.2.2 am_m48.2.1.1 am_m48.2.1.2.1 ∈ am_ts := am_ts_in (i := 1107) rfl rfl
set_option maxRecDepth 1000000 in
theorem am_cw49 : Cond.code am_m49.1.2.1 am_m49.1.2.2 am_m49.2.1.1 am_m49.2.1.2.1 ∈ am_ts := am_ts_in (i := 1111) rfl rfl
set_option maxRecDepth 1000000 in
theorem am_cw50 : Cond.code am_m50.1.2.1 am_m50.1.2.2 am_m50.2.1.1 am_m50.2.1.2.1 ∈ am_ts := am_ts_in (i := 1115) rfl rfl
set_option maxRecDepth 1000000 in
theorem am_cw51 : Cond.code am_m51.1.2.1 am_m51.1.2.2 am_m51.2.1.1 am_m51.2.1.2.1 ∈ am_ts := am_ts_in (i := 1118) rfl rfl
set_option maxRecDepth 1000000 in
theorem am_cw52 : Cond.code am_m52.1.2.1 am_m52.1.2.2 am_m52.2.1.1 am_m52.2.1.2.1 ∈ am_ts := am_ts_in (i := 1134) rfl rfl
set_option maxRecDepth 1000000 in
theorem am_cw53 : Cond.code am_m53.1.2.1 am_m53.1.2.2 am_m53.2.1.1 am_m53.2.1.2.1 ∈ am_ts := am_ts_in (i := 1138) rfl rfl
set_option maxRecDepth 1000000 in
theorem am_cw54 : Cond.code am_m54.1.2.1 am_m54.1.2.2 am_m54.2.1.1 am_m54.2.1.2.1 ∈ am_ts := am_ts_in (i := 1142) rfl rfl
set_option maxRecDepth 1000000 in
theorem am_cw55 : Cond.code am_m55.1.2.1 am_m55.1.2.2 am_m55.2.1.1 am_m55.2.1.2.1 ∈ am_ts := am_ts_in (i := 1146) rfl rfl
set_option maxRecDepth 1000000 in
theorem am_cw56 : Cond.code am_m56.1.2.1 am_m56.1.2.2 am_m56.2.1.1 am_m56.2.1.2.1 ∈ am_ts := am_ts_in (i := 1150) rfl rfl
set_option maxRecDepth 1000000 in
theorem am_cw57 : Cond.code am_m57.1.2.1 am_m57.1.2.2 am_m57.2.1.1 am_m57.2.1.2.1 ∈ am_ts := am_ts_in (i := 1156) rfl rfl
set_option maxRecDepth 1000000 in
theorem am_cw58 : Cond.code am_m58.1.2.1 am_m58.1.2.2 am_m58.2.1.1 am_m58.2.1.2.1 ∈ am_ts := am_ts_in (i := 1161) rfl rfl
set_option maxRecDepth 1000000 in
theorem am_cw59 : Cond.code am_m59.1.2.1 am_m59.1.2.2 am_m59.2.1.1 am_m59.2.1.2.1 ∈ am_ts := am_ts_in (i := 1165) rfl rfl
set_option maxRecDepth 1000000 in
theorem am_cw60 : Cond.code am_m60.1.2.1 am_m60.1.2.2 am_m60.2.1.1 am_m60.2.1.2.1 ∈ am_ts := am_ts_in (i := 1176) rfl rfl
set_option maxRecDepth 1000000 in
theorem am_cw61 : Cond.code am_m61.1.2.1 am_m61.1.2.2 am_m61.2.1.1 am_m61.2.1.2.1 ∈ am_ts := am_ts_in (i := 1180) rfl rfl
set_option maxRecDepth 1000000 in
theorem am_cw62 : Cond.code am_m62.1.2.1 am_m62.1.2.2 am_m62.2.1.1 am_m62.2.1.2.1 ∈ am_ts := am_ts_in (i := 1184) rfl rfl
set_option maxRecDepth 1000000 in
theorem am_cw63 : Cond.code am_m63.1.2.1 am_m63.1.2.2 am_m63.2.1.1 am_m63.2.1.2.1 ∈ am_ts := am_ts_in (i := 1188) rfl rfl
set_option maxRecDepth 1000000 in
theorem am_cw64 : Cond.code am_m64.1.2.1 am_m64.1.2.2 am_m64.2.1.1 am_m64.2.1.2.1 ∈ am_ts := am_ts_in (i := 1196) rfl rfl
set_option maxRecDepth 1000000 in
theorem am_cw65 : Cond.code am_m65.1.2.1 am_m65.1.2.2 am_m65.2.1.1 am_m65.2.1.2.1 ∈ am_ts := am_ts_in (i := 1200) rfl rfl
set_option maxRecDepth 1000000 in
theorem am_cw66 : Cond.code am_m66.1.2.1 am_m66.1.2.2 am_m66.2.1.1 am_m66.2.1.2.1 ∈ am_ts := am_ts_in (i := 1204) rfl rfl
set_option maxRecDepth 1000000 in
theorem am_cw67 : Cond.code am_m67.1.2.1 am_m67.1.2.2 am_m67.2.1.1 am_m67.2.1.2.1 ∈ am_ts := am_ts_in (i := 1208) rfl rfl
set_option maxRecDepth 1000000 in
theorem am_cw68 : Cond.code am_m68.1.2.1 am_m68.1.2.2 am_m68.2.1.1 am_m68.2.1.2.1 ∈ am_ts := am_ts_in (i := 1212) rfl rfl
set_option maxRecDepth 1000000 in
theorem am_cw69 : Cond.code am_m69.1.2.1 am_m69.1.2.2 am_m69.2.1.1 am_m69.2.1.2.1 ∈ am_ts := am_ts_in (i := 1216) rfl rfl
set_option maxRecDepth 1000000 in
theorem am_cw70 : Cond.code am_m70.1.2.1 am_m70.1.2.2 am_m70.2.1.1 am_m70.2.1.2.1 ∈ am_ts := am_ts_in (i := 1229) rfl rfl
set_option maxRecDepth 1000000 in
theorem am_cw71 : Cond.code am_m71.1.2.1 am_m71.1.2.2 am_m71.2.1.1 am_m71.2.1.2.1 ∈ am_ts := am_ts_in (i := 1235) rfl rfl
set_option maxRecDepth 1000000 in
theorem am_cw72 : Cond.code am_m72.1.2.1 am_m72.1.2.2 am_m72.2.1.1 am_m72.2.1.2.1 ∈ am_ts := am_ts_in (i := 1239) rfl rfl
set_option maxRecDepth 1000000 in
theorem am_cw73 : Cond.code am_m73.1.2.1 am_m73.1.2.2 am_m73.2.1.1 am_m73.2.1.2.1 ∈ am_ts := am_ts_in (i := 1243) rfl rfl
set_option maxRecDepth 1000000 in
theorem am_cw74 : Cond.code am_m74.1.2.1 am_m74.1.2.2 am_m74.2.1.1 am_m74.2.1.2.1 ∈ am_ts := am_ts_in (i := 1247) rfl rfl
set_option maxRecDepth 1000000 in
theorem am_cw75 : Cond.code am_m75.1.2.1 am_m75.1.2.2 am_m75.2.1.1 am_m75.2.1.2.1 ∈ am_ts := am_ts_in (i := 1251) rfl rfl
set_option maxRecDepth 1000000 in
theorem am_cw76 : Cond.code am_m76.1.2.1 am_m76.1.2.2 am_m76.2.1.1 am_m76.2.1.2.1 ∈ am_ts := am_ts_in (i := 1255) rfl rfl
set_option maxRecDepth 1000000 in
theorem am_cw77 : Cond.code am_m77.1.2.1 am_m77.1.2.2 am_m77.2.1.1 am_m77.2.1.2.1 ∈ am_ts := am_ts_in (i := 1355) rfl rfl
set_option maxRecDepth 1000000 in
theorem am_cw78 : Cond.code am_m78.1.2.1 am_m78.1.2.2 am_m78.2.1.1 am_m78.2.1.2.1 ∈ am_ts := am_ts_in (i := 1360) rfl rfl
set_option maxRecDepth 1000000 in
theorem am_cw79 : Cond.code am_m79.1.2.1 am_m79.1.2.2 am_m79.2.1.1 am_m79.2.1.2.1 ∈ am_ts := am_ts_in (i := 1364) rfl rfl
set_option maxRecDepth 1000000 in
theorem am_cw80 : Cond.code am_m80.1.2.1 am_m80.1.2.2 am_m80.2.1.1 am_m80.2.1.2.1 ∈ am_ts := am_ts_in (i := 1367) rfl rfl
set_option maxRecDepth 1000000 in
theorem am_cw81 : Cond.code am_m81.1.2.1 am_m81.1.2.2 am_m81.2.1.1 am_m81.2.1.2.1 ∈ am_ts := am_ts_in (i := 1371) rfl rfl
set_option maxRecDepth 1000000 in
theorem am_cw82 : Cond.code am_m82.1.2.1 am_m82.1.2.2 am_m82.2.1.1 am_m82.2.1.2.1 ∈ am_ts := am_ts_in (i := 1375) rfl rfl
set_option maxRecDepth 1000000 in
theorem am_cw83 : Cond.code am_m83.1.2.1 am_m83.1.2.2 am_m83.2.1.1 am_m83.2.1.2.1 ∈ am_ts := am_ts_in (i := 1379) rfl rfl
set_option maxRecDepth 1000000 in
theorem am_cw84 : Cond.code am_m84.1.2.1 am_m84.1.2.2 am_m84.2.1.1 am_m84.2.1.2.1 ∈ am_ts := am_ts_in (i := 1635) rfl rfl
set_option maxRecDepth 1000000 in
theorem am_cw85 : Cond.code am_m85.1.2.1 am_m85.1.2.2 am_m85.2.1.1 am_m85.2.1.2.1 ∈ am_ts := am_ts_in (i := 1639) rfl rfl
set_option maxRecDepth 1000000 in
theorem am_cw86 : Cond.code am_m86.1.2.1 am_m86.1.2.2 am_m86.2.1.1 am_m86.2.1.2.1 ∈ am_ts := am_ts_in (i := 1643) rfl rfl
set_option maxRecDepth 1000000 in
theorem am_cw87 : Cond.code am_m87.1.2.1 am_m87.1.2.2 am_m87.2.1.1 am_m87.2.1.2.1 ∈ am_ts := am_ts_in (i := 1687) rfl rfl
set_option maxRecDepth 1000000 in
theorem am_cw88 : Cond.code am_m88.1.2.1 am_m88.1.2.2 am_m88.2.1.1 am_m88.2.1.2.1 ∈ am_ts := am_ts_in (i := 1698) rfl rfl
set_option maxRecDepth 1000000 in
theorem am_cw89 : Cond.code am_m89.1.2.1 am_m89.1.2.2 am_m89.2.1.1 am_m89.2.1.2.1 ∈ am_ts := am_ts_in (i := 1765) rfl rfl
set_option maxRecDepth 1000000 in
theorem am_cw90 : Cond.code am_m90.1.2.1 am_m90.1.2.2 am_m90.2.1.1 am_m90.2.1.2.1 ∈ am_ts := am_ts_in (i := 1769) rfl rfl
set_option maxRecDepth 1000000 in
theorem am_cw91 : Cond.code am_m91.1.2.1 am_m91.1.2.2 am_m91.2.1.1 am_m91.2.1.2.1 ∈ am_ts := am_ts_in (i := 1777) rfl rfl
set_option maxRecDepth 1000000 in
theorem am_cw92 : Cond.code am_m92.1.2.1 am_m92.1.2.2 am_m92.2.1.1 am_m92.2.1.2.1 ∈ am_ts := am_ts_in (i := 1785) rfl rfl
set_option maxRecDepth 1000000 in
theorem am_cw93 : Cond.code am_m93.1.2.1 am_m93.1.2.2 am_m93.2.1.1 am_m93.2.1.2.1 ∈ am_ts := am_ts_in (i := 1790) rfl rfl
set_option maxRecDepth 1000000 in
theorem am_cw94 : Cond.code am_m94.1.2.1 am_m94.1.2.2 am_m94.2.1.1 am_m94.2.1.2.1 ∈ am_ts := am_ts_in (i := 1794) rfl rfl
set_option maxRecDepth 1000000 in
theorem am_cw95 : Cond.code am_m95.1.2.1 am_m95.1.2.2 am_m95.2.1.1 am_m95.2.1.2.1 ∈ am_ts := am_ts_in (i := 1798) rfl rfl
set_option maxRecDepth 1000000 in
theorem am_cw96 : Cond.code am_m96.1.2.1 am_m96.1.2.2 am_m96.2.1.1 am_m96.2.1.2.1 ∈ am_ts := am_ts_in (i := 1823) rfl rfl
set_option maxRecDepth 1000000 in
theorem am_cw97 : Cond.code am_m97.1.2.1 am_m97.1.2.2 am_m97.2.1.1 am_m97.2.1.2.1 ∈ am_ts := am_ts_in (i := 1827) rfl rfl
set_option maxRecDepth 1000000 in
theorem am_cw98 : Cond.code am_m98.1.2.1 am_m98.1.2.2 am_m98.2.1.1 am_m98.2.1.2.1 ∈ am_ts := am_ts_in (i := 1835) rfl rfl
set_option maxRecDepth 1000000 in
theorem am_cw99 : Cond.code am_m99.1.2.1 am_m99.1.2.2 am_m99.2.1.1 am_m99.2.1.2.1 ∈ am_ts := am_ts_in (i := 1839) rfl rfl
set_option maxRecDepth 1000000 in
theorem am_cw100 : Cond.code am_m100.1.2.1 am_m100.1.2.2 am_m100.2.1.1 am_m100.2.1.2.1 ∈ am_ts := am_ts_in (i := 1843) rfl rfl
set_option maxRecDepth 1000000 in
theorem am_cw101 : Cond.code am_m101.1.2.1 am_m101.1.2.2 am_m101.2.1.1 am_m101.2.1.2.1 ∈ am_ts := am_ts_in (i := 1866) rfl rfl
set_option maxRecDepth 1000000 in
theorem am_cw102 : Cond.code am_m102.1.2.1 am_m102.1.2.2 am_m102.2.1.1 am_m102.2.1.2.1 ∈ am_ts := am_ts_in (i := 1870) rfl rfl
set_option maxRecDepth 1000000 in
theorem am_cw103 : Cond.code am_m103.1.2.1 am_m103.1.2.2 am_m103.2.1.1 am_m103.2.1.2.1 ∈ am_ts := am_ts_in (i := 1874) rfl rfl
set_option maxRecDepth 1000000 in
theorem am_cw104 : Cond.code am_m104.1.2.1 am_m104.1.2.2 am_m104.2.1.1 am_m104.2.1.2.1 ∈ am_ts := am_ts_in (i := 1878) rfl rfl
set_option maxRecDepth 1000000 in
theorem am_cw105 : Cond.code am_m105.1.2.1 am_m105.1.2.2 am_m105.2.1.1 am_m105.2.1.2.1 ∈ am_ts := am_ts_in (i := 1882) rfl rfl
set_option maxRecDepth 1000000 in
theorem am_cw106 : Cond.code am_m106.1.2.1 am_m106.1.2.2 am_m106.2.1.1 am_m106.2.1.2.1 ∈ am_ts := am_ts_in (i := 1886) rfl rfl
set_option maxRecDepth 1000000 in
theorem am_cw107 : Cond.code am_m107.1.2.1 am_m107.1.2.2 am_m107.2.1.1 am_m107.2.1.2.1 ∈ am_ts := am_ts_in (i := 1890) rfl rfl
set_option maxRecDepth 1000000 in
theorem am_cw108 : Cond.code am_m108.1.2.1 am_m108.1.2.2 am_m108.2.1.1 am_m108.2.1.2.1 ∈ am_ts := am_ts_in (i := 1906) rfl rfl
set_option maxRecDepth 1000000 in
theorem am_cw109 : Cond.code am_m109.1.2.1 am_m109.1.2.2 am_m109.2.1.1 am_m109.2.1.2.1 ∈ am_ts := am_ts_in (i := 1930) rfl rfl
set_option maxRecDepth 1000000 in
theorem am_cw110 : Cond.code am_m110.1.2.1 am_m110.1.2.2 am_m110.2.1.1 am_m110.2.1.2.1 ∈ am_ts := am_ts_in (i := 1934) rfl rfl
set_option maxRecDepth 1000000 in
theorem am_cw111 : Cond.code am_m111.1.2.1 am_m111.1.2.2 am_m111.2.1.1 am_m111.2.1.2.1 ∈ am_ts := am_ts_in (i := 1938) rfl rfl
set_option maxRecDepth 1000000 in
theorem am_cw112 : Cond.code am_m112.1.2.1 am_m112.1.2.2 am_m112.2.1.1 am_m112.2.1.2.1 ∈ am_ts := am_ts_in (i := 1942) rfl rfl
set_option maxRecDepth 1000000 in
theorem am_cw113 : Cond.code am_m113.1.2.1 am_m113.1.2.2 am_m113.2.1.1 am_m113.2.1.2.1 ∈ am_ts := am_ts_in (i := 1945) rfl rfl
set_option maxRecDepth 1000000 in
theorem am_cw114 : Cond.code am_m114.1.2.1 am_m114.1.2.2 am_m114.2.1.1 am_m114.2.1.2.1 ∈ am_ts := am_ts_in (i := 1957) rfl rfl
set_option maxRecDepth 1000000 in
theorem am_cw115 : Cond.code am_m115.1.2.1 am_m115.1.2.2 am_m115.2.1.1 am_m115.2.1.2.1 ∈ am_ts := am_ts_in (i := 1961) rfl rfl
set_option maxRecDepth 1000000 in
theorem am_cw116 : Cond.code am_m116.1.2.1 am_m116.1.2.2 am_m116.2.1.1 am_m116.2.1.2.1 ∈ am_ts := am_ts_in (i := 1965) rfl rfl
set_option maxRecDepth 1000000 in
theorem am_cw117 : Cond.code am_m117.1.2.1 am_m117.1.2.2 am_m117.2.1.1 am_m117.2.1.2.1 ∈ am_ts := am_ts_in (i := 1969) rfl rfl
set_option maxRecDepth 1000000 in
theorem am_cw118 : Cond.code am_m118.1.2.1 am_m118.1.2.2 am_m118.2.1.1 am_m118.2.1.2.1 ∈ am_ts := am_ts_in (i := 1975) rfl rfl
set_option maxRecDepth 1000000 in
theorem am_cw119 : Cond.code am_m119.1.2.1 am_m119.1.2.2 am_m119.2.1.1 am_m119.2.1.2.1 ∈ am_ts := am_ts_in (i := 1982) rfl rfl
set_option maxRecDepth 1000000 in
theorem am_cw120 : Cond.code am_m120.1.2.1 am_m120.1.2.2 am_m120.2.1.1 am_m120.2.1.2.1 ∈ am_ts := am_ts_in (i := 1994) rfl rfl
set_option maxRecDepth 1000000 in
theorem am_cw121 : Cond.code am_m121.1.2.1 am_m121.1.2.2 am_m121.2.1.1 am_m121.2.1.2.1 ∈ am_ts := am_ts_in (i := 1998) rfl rfl
set_option maxRecDepth 1000000 in
theorem am_cw122 : Cond.code am_m122.1.2.1 am_m122.1.2.2 am_m122.2.1.1 am_m122.2.1.2.1 ∈ am_ts := am_ts_in (i := 2006) rfl rfl
set_option maxRecDepth 1000000 in
theorem am_cw123 : Cond.code am_m123.1.2.1 am_m123.1.2.2 am_m123.2.1.1 am_m123.2.1.2.1 ∈ am_ts := am_ts_in (i := 2010) rfl rfl
set_option maxRecDepth 1000000 in
theorem am_cw124 : Cond.code am_m124.1.2.1 am_m124.1.2.2 am_m124.2.1.1 am_m124.2.1.2.1 ∈ am_ts := am_ts_in (i := 2014) rfl rfl
set_option maxRecDepth 1000000 in
theorem am_cw125 : Cond.code am_m125.1.2.1 am_m125.1.2.2 am_m125.2.1.1 am_m125.2.1.2.1 ∈ am_ts := am_ts_in (i := 2018) rfl rfl
set_option maxRecDepth 1000000 in
theorem am_cw126 : Cond.code am_m126.1.2.1 am_m126.1.2.2 am_m126.2.1.1 am_m126.2.1.2.1 ∈ am_ts := am_ts_in (i := 2022) rfl rfl
set_option maxRecDepth 1000000 in
theorem am_cw127 : Cond.code am_m127.1.2.1 am_m127.1.2.2 am_m127.2.1.1 am_m127.2.1.2.1 ∈ am_ts := am_ts_in (i := 2026) rfl rfl
set_option maxRecDepth 1000000 in
theorem am_cw128 : Cond.code am_m128.1.2.1 am_m128.1.2.2 am_m128.2.1.1 am_m128.2.1.2.1 ∈ am_ts := am_ts_in (i := 2030) rfl rfl
set_option maxRecDepth 1000000 in
theorem am_cw129 : Cond.code am_m129.1.2.1 am_m129.1.2.2 am_m129.2.1.1 am_m129.2.1.2.1 ∈ am_ts := am_ts_in (i := 2034) rfl rfl
set_option maxRecDepth 1000000 in
theorem am_cw130 : Cond.code am_m130.1.2.1 am_m130.1.2.2 am_m130.2.1.1 am_m130.2.1.2.1 ∈ am_ts := am_ts_in (i := 2042) rfl rfl
set_option maxRecDepth 1000000 in
theorem am_cw131 : Cond.code am_m131.1.2.1 am_m131.1.2.2 am_m131.2.1.1 am_m131.2.1.2.1 ∈ am_ts := am_ts_in (i := 2046) rfl rfl
set_option maxRecDepth 1000000 in
theorem am_cw132 : Cond.code am_m132.1.2.1 am_m132.1.2.2 am_m132.2.1.1 am_m132.2.1.2.1 ∈ am_ts := am_ts_in (i := 2050) rfl rfl
set_option maxRecDepth 1000000 in
theorem am_cw133 : Cond.code am_m133.1.2.1 am_m133.1.2.2 am_m133.2.1.1 am_m133.2.1.2.1 ∈ am_ts := am_ts_in (i := 1773) rfl rfl
set_option maxRecDepth 1000000 in
theorem am_cw134 : Cond.code am_m134.1.2.1 am_m134.1.2.2 am_m134.2.1.1 am_m134.2.1.2.1 ∈ am_ts := am_ts_in (i := 1631) rfl rfl
set_option maxRecDepth 1000000 in
theorem am_cw135 : Cond.code am_m135.1.2.1 am_m135.1.2.2 am_m135.2.1.1 am_m135.2.1.2.1 ∈ am_ts := am_ts_in (i := 1781) rfl rfl
theorem am_cw_all : ∀ M ∈ am_prog, Cond.code M.1.2.1 M.1.2.2 M.2.1.1 M.2.1.2.1 ∈ am_ts := List.forall_mem_cons.mpr ⟨am_cw0, List.forall_mem_cons.mpr ⟨am_cw1, List.forall_mem_cons.mpr ⟨am_cw2, List.forall_mem_cons.mpr ⟨am_cw3, List.forall_mem_cons.mpr ⟨am_cw4, List.forall_mem_cons.mpr ⟨am_cw5, List.forall_mem_cons.mpr ⟨am_cw6, List.forall_mem_cons.mpr ⟨am_cw7, List.forall_mem_cons.mpr ⟨am_cw8, List.forall_mem_cons.mpr ⟨am_cw9, List.forall_mem_cons.mpr ⟨am_cw10, List.forall_mem_cons.mpr ⟨am_cw11, List.forall_mem_cons.mpr ⟨am_cw12, List.forall_mem_cons.mpr ⟨am_cw13, List.forall_mem_cons.mpr ⟨am_cw14, List.forall_mem_cons.mpr ⟨am_cw15, List.forall_mem_cons.mpr ⟨am_cw16, List.forall_mem_cons.mpr ⟨am_cw17, List.forall_mem_cons.mpr ⟨am_cw18, List.forall_mem_cons.mpr ⟨am_cw19, List.forall_mem_cons.mpr ⟨am_cw20, List.forall_mem_cons.mpr ⟨am_cw21, List.forall_mem_cons.mpr ⟨am_cw22, List.forall_mem_cons.mpr ⟨am_cw23, List.forall_mem_cons.mpr ⟨am_cw24, List.forall_mem_cons.mpr ⟨am_cw25, List.forall_mem_cons.mpr ⟨am_cw26, List.forall_mem_cons.mpr ⟨am_cw27, List.forall_mem_cons.mpr ⟨am_cw28, List.forall_mem_cons.mpr ⟨am_cw29, List.forall_mem_cons.mpr ⟨am_cw30, List.forall_mem_cons.mpr ⟨am_cw31, List.forall_mem_cons.mpr ⟨am_cw32, List.forall_mem_cons.mpr ⟨am_cw33, List.forall_mem_cons.mpr ⟨am_cw34, List.forall_mem_cons.mpr ⟨am_cw35, List.forall_mem_cons.mpr ⟨am_cw36, List.forall_mem_cons.mpr ⟨am_cw37, List.forall_mem_cons.mpr ⟨am_cw38, List.forall_mem_cons.mpr ⟨am_cw39, List.forall_mem_cons.mpr ⟨am_cw40, List.forall_mem_cons.mpr ⟨am_cw41, List.forall_mem_cons.mpr ⟨am_cw42, List.forall_mem_cons.mpr ⟨am_cw43, List.forall_mem_cons.mpr ⟨am_cw44, List.forall_mem_cons.mpr ⟨am_cw45, List.forall_mem_cons.mpr ⟨am_cw46, List.forall_mem_cons.mpr ⟨am_cw47, List.forall_mem_cons.mpr ⟨am_cw48, List.forall_mem_cons.mpr ⟨am_cw49, List.forall_mem_cons.mpr ⟨am_cw50, List.forall_mem_cons.mpr ⟨am_cw51, List.forall_mem_cons.mpr ⟨am_cw52, List.forall_mem_cons.mpr ⟨am_cw53, List.forall_mem_cons.mpr ⟨am_cw54, List.forall_mem_cons.mpr ⟨am_cw55, List.forall_mem_cons.mpr ⟨am_cw56, List.forall_mem_cons.mpr ⟨am_cw57, List.forall_mem_cons.mpr ⟨am_cw58, List.forall_mem_cons.mpr ⟨am_cw59, List.forall_mem_cons.mpr ⟨am_cw60, List.forall_mem_cons.mpr ⟨am_cw61, List.forall_mem_cons.mpr ⟨am_cw62, List.forall_mem_cons.mpr ⟨am_cw63, List.forall_mem_cons.mpr ⟨am_cw64, List.forall_mem_cons.mpr ⟨am_cw65, List.forall_mem_cons.mpr ⟨am_cw66, List.forall_mem_cons.mpr ⟨am_cw67, List.forall_mem_cons.mpr ⟨am_cw68, List.forall_mem_cons.mpr ⟨am_cw69, List.forall_mem_cons.mpr ⟨am_cw70, List.forall_mem_cons.mpr ⟨am_cw71, List.forall_mem_cons.mpr ⟨am_cw72, List.forall_mem_cons.mpr ⟨am_cw73, List.forall_mem_cons.mpr ⟨am_cw74, List.forall_mem_cons.mpr ⟨am_cw75, List.forall_mem_cons.mpr ⟨am_cw76, List.forall_mem_cons.mpr ⟨am_cw77, List.forall_mem_cons.mpr ⟨am_cw78, List.forall_mem_cons.mpr ⟨am_cw79, List.forall_mem_cons.mpr ⟨am_cw80, List.forall_mem_cons.mpr ⟨am_cw81, List.forall_mem_cons.mpr ⟨am_cw82, List.forall_mem_cons.mpr ⟨am_cw83, List.forall_mem_cons.mpr ⟨am_cw84, List.forall_mem_cons.mpr ⟨am_cw85, List.forall_mem_cons.mpr ⟨am_cw86, List.forall_mem_cons.mpr ⟨am_cw87, List.forall_mem_cons.mpr ⟨am_cw88, List.forall_mem_cons.mpr ⟨am_cw89, List.forall_mem_cons.mpr ⟨am_cw90, List.forall_mem_cons.mpr ⟨am_cw91, List.forall_mem_cons.mpr ⟨am_cw92, List.forall_mem_cons.mpr ⟨am_cw93, List.forall_mem_cons.mpr ⟨am_cw94, List.forall_mem_cons.mpr ⟨am_cw95, List.forall_mem_cons.mpr ⟨am_cw96, List.forall_mem_cons.mpr ⟨am_cw97, List.forall_mem_cons.mpr ⟨am_cw98, List.forall_mem_cons.mpr ⟨am_cw99, List.forall_mem_cons.mpr ⟨am_cw100, List.forall_mem_cons.mpr ⟨am_cw101, List.forall_mem_cons.mpr ⟨am_cw102, List.forall_mem_cons.mpr ⟨am_cw103, List.forall_mem_cons.mpr ⟨am_cw104, List.forall_mem_cons.mpr ⟨am_cw105, List.forall_mem_cons.mpr ⟨am_cw106, List.forall_mem_cons.mpr ⟨am_cw107, List.forall_mem_cons.mpr ⟨am_cw108, List.forall_mem_cons.mpr ⟨am_cw109, List.forall_mem_cons.mpr ⟨am_cw110, List.forall_mem_cons.mpr ⟨am_cw111, List.forall_mem_cons.mpr ⟨am_cw112, List.forall_mem_cons.mpr ⟨am_cw113, List.forall_mem_cons.mpr ⟨am_cw114, List.forall_mem_cons.mpr ⟨am_cw115, List.forall_mem_cons.mpr ⟨am_cw116, List.forall_mem_cons.mpr ⟨am_cw117, List.forall_mem_cons.mpr ⟨am_cw118, List.forall_mem_cons.mpr ⟨am_cw119, List.forall_mem_cons.mpr ⟨am_cw120, List.forall_mem_cons.mpr ⟨am_cw121, List.forall_mem_cons.mpr ⟨am_cw122, List.forall_mem_cons.mpr ⟨am_cw123, List.forall_mem_cons.mpr ⟨am_cw124, List.forall_mem_cons.mpr ⟨am_cw125, List.forall_mem_cons.mpr ⟨am_cw126, List.forall_mem_cons.mpr ⟨am_cw127, List.forall_mem_cons.mpr ⟨am_cw128, List.forall_mem_cons.mpr ⟨am_cw129, List.forall_mem_cons.mpr ⟨am_cw130, List.forall_mem_cons.mpr ⟨am_cw131, List.forall_mem_cons.mpr ⟨am_cw132, List.forall_mem_cons.mpr ⟨am_cw133, List.forall_mem_cons.mpr ⟨am_cw134, List.forall_mem_cons.mpr ⟨am_cw135, fun _ h => absurd h List.not_mem_nil⟩⟩⟩⟩⟩⟩⟩⟩⟩⟩⟩⟩⟩⟩⟩⟩⟩⟩⟩⟩⟩⟩⟩⟩⟩⟩⟩⟩⟩⟩⟩⟩⟩⟩⟩⟩⟩⟩⟩⟩⟩⟩⟩⟩⟩⟩⟩⟩⟩⟩⟩⟩⟩⟩⟩⟩⟩⟩⟩⟩⟩⟩⟩⟩⟩⟩⟩⟩⟩⟩⟩⟩⟩⟩⟩⟩⟩⟩⟩⟩⟩⟩⟩⟩⟩⟩⟩⟩⟩⟩⟩⟩⟩⟩⟩⟩⟩⟩⟩⟩⟩⟩⟩⟩⟩⟩⟩⟩⟩⟩⟩⟩⟩⟩⟩⟩⟩⟩⟩⟩⟩⟩⟩⟩⟩⟩⟩⟩⟩⟩⟩⟩⟩⟩⟩⟩
set_option maxRecDepth 1000000 in
theorem am_cwL : Cond.codeWith am_mL.1.2.1 am_mL.1.2.2 am_mL.2.1.1 am_mL.2.1.2.1 am_hh ∈ am_ts := am_ts_in (i := 1258) rfl rfl
set_option maxRecDepth 1000000 in
theorem am_chkMs : (List.range 400).all am_chkM = true := by decide +kernel
theorem am_allM {a : Nat} {M : am_M} (hM : am_prog[a]? = some M) : am_facts a M := by
  have hlt : a < am_prog.length := (List.getElem?_eq_some_iff.mp hM).1
  have hl : am_prog.length ≤ 400 := by decide +kernel
  exact am_chkM_ok (List.all_eq_true.mp am_chkMs a (List.mem_range.mpr (Nat.lt_of_lt_of_le hlt hl))) hM (am_cw_all M (List.mem_of_getElem? hM))
/-- what is checked of an instruction -/
def am_chkI (M : am_M) (i : am_I) : Bool := decide (decode M.1.2.2 i.1 = .ok (i.2.2.1, i.2.1)) && match i.2.2.1 with
  | .aload _ | .iload _ | .lload _ | .istore _ | .lstore _ | .astore _ | .bipush _ => decide (i.2.1 = 2)
  | .iinc _ _ | .sipush _ | .goto _ => decide (i.2.1 = 3)
  | .ifCond _ off | .if_icmp _ off => decide (i.2.1 = 3) && decide (0 ≤ (i.1 : Int) + off)
  | .tableswitch _ _ _ _ => true
  | .ldc k => decide (i.2.1 = 2) && (match i.2.2.2.1.2.1 with
    | 0 => am_w i.2.2.2.1.2.2 (Cond.constant M.1.2.1.cls k (Int32.ofInt i.2.2.2.2))
    | _ => match lw_tbl[i.2.2.2.1.2.2]? with
      | some (.stringRef o j tx) => decide (o = M.1.2.1.cls) && decide (j = k) && decide (M.1.2.1.cls = "AirBed$Reader")
      | _ => false)
  | .ldc2_w k => decide (i.2.1 = 3) && am_w i.2.2.2.1.2.2 (Cond.constantLong M.1.2.1.cls k (Int64.ofInt i.2.2.2.2))
  | .getfield idx => decide (i.2.1 = 3) && (match am_cls[i.2.2.2.1.1]? with
    | some r => decide (i.2.2.2.1.2.1 < r.2.2) && am_wF i.2.2.2.1.2.2 M.1.2.1.cls idx (r.2.1 i.2.2.2.1.2.1)
    | none => false)
  | .putfield idx => decide (i.2.1 = 3) && (match am_cls[i.2.2.2.1.1]? with
    | some r => decide (i.2.2.2.1.2.1 < r.2.2) && cond (r.2.1 i.2.2.2.1.2.1).2.2.2
        (am_w i.2.2.2.1.2.2 (Cond.fieldLink M.1.2.1.cls idx (r.2.1 i.2.2.2.1.2.1).1 (r.2.1 i.2.2.2.1.2.1).2.1 (r.2.1 i.2.2.2.1.2.1).2.2.1) && decide (M.1.2.1.name = "<init>") && decide ((r.2.1 i.2.2.2.1.2.1).1 = M.1.2.1.cls))
        (am_wF i.2.2.2.1.2.2 M.1.2.1.cls idx (r.2.1 i.2.2.2.1.2.1))
    | none => false)
  | .newarray t => decide (i.2.1 = 2) && am_w i.2.2.2.1.2.2 (Cond.arrayClass (Op.newarray.typeOf t)) && decide (Op.newarray.typeOf t = .int ∨ Op.newarray.typeOf t = .boolean ∨ Op.newarray.typeOf t = .long)
  | .anewarray idx => decide (i.2.1 = 3) && (match am_cls[i.2.2.2.1.1]? with
    | some r => am_w i.2.2.2.1.2.1 (Cond.classLink M.1.2.1.cls idx r.1) && decide (lw_tbl[i.2.2.2.1.2.2]? = some (Cond.arrayOver (.object r.1)))
    | none => false)
  | .new idx => decide (i.2.1 = 3) && (match am_cls[i.2.2.2.1.1]? with
    | some r => am_w i.2.2.2.1.2.1 (Cond.classLink M.1.2.1.cls idx r.1)
    | none => false)
  | .invokespecial idx => decide (i.2.1 = 3) && (match i.2.2.2.1.2.2 with
    | 0 => am_w i.2.2.2.1.2.1 (Cond.methodLink M.1.2.1.cls idx Lib.objectInit)
    | _ => match am_prog[i.2.2.2.1.1]? with
      | none => true
      | some M' => decide (M'.1.2.1.name = "<init>" ∧ M'.2.1.2.1 = none) && am_wM i.2.2.2.1.2.1 M.1.2.1.cls idx M'.1.2.1 && (match am_hint[i.2.2.2.1.1]? with
        | some h => !h.2.2.2.2
        | none => false))
  | .invokevirtual idx => decide (i.2.1 = 3) && (match i.2.2.2.1.2.2 with
    | 0 => am_w i.2.2.2.1.2.1 (Cond.methodLink M.1.2.1.cls idx am_charAt)
    | _ => match am_prog[i.2.2.2.1.1]? with
      | none => true
      | some M' => decide (¬ M'.1.2.1.name = "<init>") && am_wM i.2.2.2.1.2.1 M.1.2.1.cls idx M'.1.2.1 && (match am_hint[i.2.2.2.1.1]? with
        | some h => !h.2.2.2.2
        | none => false))
  | .invokestatic idx => decide (i.2.1 = 3) && (match i.2.2.2.1.2.2 with
    | 0 => am_w i.2.2.2.1.2.1 (Cond.methodLink M.1.2.1.cls idx am_mL.1.2.1)
    | 1 => am_w i.2.2.2.1.2.1 (Cond.methodLink M.1.2.1.cls idx Lib.Math.max.name)
    | 2 => am_w i.2.2.2.1.2.1 (Cond.methodLink M.1.2.1.cls idx Lib.Math.min.name)
    | _ => match am_prog[i.2.2.2.1.1]? with
      | none => true
      | some M' => (match lw_tbl[i.2.2.2.1.2.1]? with
          | some (.methodLink o j r) => decide (o = M.1.2.1.cls) && decide (j = idx) && decide (r = M'.1.2.1) && decide (M'.1.2.1.cls = M.1.2.1.cls) && goodWord (.methodLink o j r)
          | some (.methodLinkNest o j r host) => decide (o = M.1.2.1.cls) && decide (j = idx) && decide (r = M'.1.2.1)
          | _ => false) && (match am_hint[i.2.2.2.1.1]? with
        | some h => h.2.2.2.2
        | none => false))
  | _ => decide (i.2.1 = 1)
theorem am_oI_ok : Cond.instanceMethod Lib.objectInit ∈ am_ts ∧ Cond.code Lib.objectInit ⟨#[0xb1]⟩ 1 none ∈ am_ts := ⟨am_w_ok (i := am_oI.1) (by decide +kernel), am_w_ok (i := am_oI.2) (by decide +kernel)⟩
theorem am_oM_ok : Cond.initialized "java/lang/Math" ∈ am_ts ∧ Cond.static Lib.Math.max.name ∈ am_ts ∧ Cond.code Lib.Math.max.name Lib.Math.max.code 2 (some .int) ∈ am_ts ∧ Cond.static Lib.Math.min.name ∈ am_ts ∧ Cond.code Lib.Math.min.name Lib.Math.min.code 2 (some .int) ∈ am_ts :=
  ⟨am_w_ok (i := am_oM.1) (by decide +kernel), am_w_ok (i := am_oM.2.1) (by decide +kernel), am_w_ok (i := am_oM.2.2.1) (by decide +kernel), am_w_ok (i := am_oM.2.2.2.1) (by decide +kernel), am_w_ok (i := am_oM.2.2.2.2) (by decide +kernel)⟩
theorem am_oL_ok (scr : Option (Nat × (Nat → Int32))) (lk : List Value → List am_k → am_H → Option am_O) : am_okL (am_P1 scr lk) am_hh := by
  have h1 : Cond.static am_mL.1.2.1 ∈ am_ts := am_w_ok (i := am_oL.1) (by decide +kernel)
  have h2 : Cond.initialized am_mL.1.2.1.cls ∈ am_ts := am_w_ok (i := am_oL.2.1) (by decide +kernel)
  have h3 : am_mL.1.2.1.cls ≠ "java/lang/invoke/MethodHandle" ∧ am_mL.1.2.1.cls ≠ "java/lang/invoke/VarHandle" ∧ (parseMethodDescriptor am_mL.1.2.1.desc).map (fun d => d.parameters.length) = some am_mL.2.1.2.2 := by decide +kernel
  exact ⟨h1, h2, am_cwL, h3⟩
