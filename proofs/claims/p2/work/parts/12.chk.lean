/-! ===== THE PROGRAM'S TABLES HOLD: checks that the kernel runs ===== -/
def am_w (i : Nat) (w : Cond) : Bool := decide (lw_tbl[i]? = some w) && goodWord w
theorem am_w_ok {i : Nat} {w : Cond} (h : am_w i w = true) : w ∈ am_ts := by
  simp only [am_w, Bool.and_eq_true, decide_eq_true_eq] at h
  exact am_ts_in h.1 h.2
def am_wF (i : Nat) (own : String) (idx : Nat) (q : String × String × String × Bool) : Bool := match lw_tbl[i]? with
  | some (.fieldLink o j r n d) => decide (o = own) && decide (j = idx) && decide (r = q.1) && decide (n = q.2.1) && decide (d = q.2.2.1) && goodWord (.fieldLink o j r n d)
  | some (.fieldLinkNest o j r n d host) => decide (o = own) && decide (j = idx) && decide (r = q.1) && decide (n = q.2.1) && decide (d = q.2.2.1)
  | _ => false
theorem am_wF_ok {i : Nat} {own : String} {idx : Nat} {q : String × String × String × Bool} (h : am_wF i own idx q = true) : am_fl own idx q := by
  unfold am_wF at h
  split at h
  · rename_i o j r n d hw
    simp only [Bool.and_eq_true, decide_eq_true_eq] at h
    obtain ⟨⟨⟨⟨⟨rfl, rfl⟩, rfl⟩, rfl⟩, rfl⟩, hg⟩ := h
    exact Or.inl (am_ts_in hw hg)
  · rename_i o j r n d host hw
    simp only [Bool.and_eq_true, decide_eq_true_eq] at h
    obtain ⟨⟨⟨⟨rfl, rfl⟩, rfl⟩, rfl⟩, rfl⟩ := h
    exact Or.inr ⟨host, am_tn_in hw rfl⟩
  · cases h
def am_wM (i : Nat) (own : String) (idx : Nat) (y : MethodName) : Bool := match lw_tbl[i]? with
  | some (.methodLink o j r) => decide (o = own) && decide (j = idx) && decide (r = y) && goodWord (.methodLink o j r)
  | some (.methodLinkNest o j r host) => decide (o = own) && decide (j = idx) && decide (r = y)
  | _ => false
theorem am_wM_ok {i : Nat} {own : String} {idx : Nat} {y : MethodName} (h : am_wM i own idx y = true) : am_ml own idx y := by
  unfold am_wM at h
  split at h
  · rename_i o j r hw
    simp only [Bool.and_eq_true, decide_eq_true_eq] at h
    obtain ⟨⟨⟨rfl, rfl⟩, rfl⟩, hg⟩ := h
    exact Or.inl (am_ts_in hw hg)
  · rename_i o j r host hw
    simp only [Bool.and_eq_true, decide_eq_true_eq] at h
    obtain ⟨⟨rfl, rfl⟩, rfl⟩ := h
    exact Or.inr ⟨host, am_tn_in hw rfl⟩
  · cases h
def am_mL : am_M := ((13, ⟨"AirBedLaw", "look", "(LAirBed;II[J)I"⟩, method_3_code), (5, some .int, 4), (9, 240, 4, 40), [])
def am_P1 (scr : Option (Nat × (Nat → Int32))) (lk : List Value → List am_k → am_H → Option am_O) : am_G := (fun a => am_prog[a]?, am_tys, am_nms, am_txt, scr, am_mL, lk)
/-- what is checked of a method -/
def am_chkM (a : Nat) : Bool := match am_prog[a]?, am_hint[a]? with
  | some M, some h => am_w h.2.1 (Cond.initialized M.1.2.1.cls) && decide (M.1.2.1.cls ≠ "java/lang/invoke/MethodHandle") && decide (M.1.2.1.cls ≠ "java/lang/invoke/VarHandle") && decide ((parseMethodDescriptor M.1.2.1.desc).map (fun d => d.parameters.length) = some M.2.1.2.2)
      && plainName M.1.2.1.cls && decide (am_nms M.1.1 = M.1.2.1.cls) && decide ((M.2.2.2.head?.map (fun i => i.1)) = some 0)
      && cond h.2.2.2.2 (am_w h.2.2.1 (Cond.static M.1.2.1)) (am_w h.2.2.1 (Cond.instanceMethod M.1.2.1) && (decide (M.1.2.1.name = "<init>" ∧ M.2.1.2.1 = none) || am_w h.2.2.2.1 (Cond.selects M.1.2.1.cls M.1.2.1 M.1.2.1)))
  | none, _ => true
  | _, _ => false
def am_facts (a : Nat) (M : am_M) : Prop := (∀ scr lk, am_okM (am_P1 scr lk) M) ∧ ((M.2.2.2.head?.map (fun i => i.1)) = some 0) ∧ ∃ h, am_hint[a]? = some h ∧ (h.2.2.2.2 = true → Cond.static M.1.2.1 ∈ am_ts) ∧ (h.2.2.2.2 = false → Cond.instanceMethod M.1.2.1 ∈ am_ts ∧ ((M.1.2.1.name = "<init>" ∧ M.2.1.2.1 = none) ∨ Cond.selects M.1.2.1.cls M.1.2.1 M.1.2.1 ∈ am_ts))
theorem am_chkM_ok {a : Nat} (h : am_chkM a = true) {M : am_M} (hM : am_prog[a]? = some M) (c1 : Cond.code M.1.2.1 M.1.2.2 M.2.1.1 M.2.1.2.1 ∈ am_ts) : am_facts a M := by
  unfold am_chkM at h
  rw [hM] at h
  split at h
  · rename_i M0 hn h1 h2
    cases h1
    simp only [Bool.and_eq_true, decide_eq_true_eq] at h
    obtain ⟨⟨⟨⟨⟨⟨⟨c2, c3⟩, c4⟩, c5⟩, c6⟩, c7⟩, c8⟩, c9⟩ := h
    refine ⟨fun _ _ => ⟨c1, am_w_ok c2, ⟨c3, c4, c5⟩, c6, c7⟩, c8, hn, h2, fun hs => ?_, fun hs => ?_⟩
    · rw [hs] at c9
      exact am_w_ok c9
    · rw [hs] at c9
      simp only [cond_false, Bool.and_eq_true, Bool.or_eq_true, decide_eq_true_eq] at c9
      exact ⟨am_w_ok c9.1, c9.2.imp id am_w_ok⟩
  · rename_i h1
    cases h1
  · cases h
def am_hh : List (Nat × Nat × Nat × Nat) := [(0, 10, 13, 13), (0, 10, 17, 15)]
set_option maxRecDepth 1000000 in
theorem am_cw0 : Cond.code am_m0.1.2.1 am_m0.1.2.2 am_m0.2.1.1 am_m0.2.1.2.1 ∈ am_ts := am_ts_in (i := 145) rfl rfl
set_option maxRecDepth 1000000 in
theorem am_cw1 : Cond.code am_m1.1.2.1 am_m1.1.2.2 am_m1.2.1.1 am_m1.2.1.2.1 ∈ am_ts := am_ts_in (i := 153) rfl rfl
set_option maxRecDepth 1000000 in
theorem am_cw2 : Cond.code am_m2.1.2.1 am_m2.1.2.2 am_m2.2.1.1 am_m2.2.1.2.1 ∈ am_ts := am_ts_in (i := 161) rfl rfl
set_option maxRecDepth 1000000 in
theorem am_cw3 : Cond.code am_m3.1.2.1 am_m3.1.2.2 am_m3.2.1.1 am_m3.2.1.2.1 ∈ am_ts := am_ts_in (i := 201) rfl rfl
set_option maxRecDepth 1000000 in
theorem am_cw4 : Cond.code am_m4.1.2.1 am_m4.1.2.2 am_m4.2.1.1 am_m4.2.1.2.1 ∈ am_ts := am_ts_in (i := 243) rfl rfl
set_option maxRecDepth 1000000 in
theorem am_cw5 : Cond.code am_m5.1.2.1 am_m5.1.2.2 am_m5.2.1.1 am_m5.2.1.2.1 ∈ am_ts := am_ts_in (i := 247) rfl rfl
set_option maxRecDepth 1000000 in
theorem am_cw6 : Cond.code am_m6.1.2.1 am_m6.1.2.2 am_m6.2.1.1 am_m6.2.1.2.1 ∈ am_ts := am_ts_in (i := 363) rfl rfl
set_option maxRecDepth 1000000 in
theorem am_cw7 : Cond.code am_m7.1.2.1 am_m7.1.2.2 am_m7.2.1.1 am_m7.2.1.2.1 ∈ am_ts := am_ts_in (i := 460) rfl rfl
set_option maxRecDepth 1000000 in
theorem am_cw8 : Cond.code am_m8.1.2.1 am_m8.1.2.2 am_m8.2.1.1 am_m8.2.1.2.1 ∈ am_ts := am_ts_in (i := 508) rfl rfl
set_option maxRecDepth 1000000 in
theorem am_cw9 : Cond.code am_m9.1.2.1 am_m9.1.2.2 am_m9.2.1.1 am_m9.2.1.2.1 ∈ am_ts := am_ts_in (i := 528) rfl rfl
set_option maxRecDepth 1000000 in
theorem am_cw10 : Cond.code am_m10.1.2.1 am_m10.1.2.2 am_m10.2.1.1 am_m10.2.1.2.1 ∈ am_ts := am_ts_in (i := 562) rfl rfl
set_option maxRecDepth 1000000 in
theorem am_cw11 : Cond.code am_m11.1.2.1 am_m11.1.2.2 am_m11.2.1.1 am_m11.2.1.2.1 ∈ am_ts := am_ts_in (i := 602) rfl rfl
set_option maxRecDepth 1000000 in
theorem am_cw12 : Cond.code am_m12.1.2.1 am_m12.1.2.2 am_m12.2.1.1 am_m12.2.1.2.1 ∈ am_ts := am_ts_in (i := 620) rfl rfl
set_option maxRecDepth 1000000 in
theorem am_cw13 : Cond.code am_m13.1.2.1 am_m13.1.2.2 am_m13.2.1.1 am_m13.2.1.2.1 ∈ am_ts := am_ts_in (i := 640) rfl rfl
set_option maxRecDepth 1000000 in
theorem am_cw14 : Cond.code am_m14.1.2.1 am_m14.1.2.2 am_m14.2.1.1 am_m14.2.1.2.1 ∈ am_ts := am_ts_in (i := 660) rfl rfl
set_option maxRecDepth 1000000 in
theorem am_cw15 : Cond.code am_m15.1.2.1 am_m15.1.2.2 am_m15.2.1.1 am_m15.2.1.2.1 ∈ am_ts := am_ts_in (i := 713) rfl rfl
set_option maxRecDepth 1000000 in
theorem am_cw16 : Cond.code am_m16.1.2.1 am_m16.1.2.2 am_m16.2.1.1 am_m16.2.1.2.1 ∈ am_ts := am_ts_in (i := 717) rfl rfl
set_option maxRecDepth 1000000 in
theorem am_cw17 : Cond.code am_m17.1.2.1 am_m17.1.2.2 am_m17.2.1.1 am_m17.2.1.2.1 ∈ am_ts := am_ts_in (i := 721) rfl rfl
set_option maxRecDepth 1000000 in
theorem am_cw18 : Cond.code am_m18.1.2.1 am_m18.1.2.2 am_m18.2.1.1 am_m18.2.1.2.1 ∈ am_ts := am_ts_in (i := 725) rfl rfl
set_option maxRecDepth 1000000 in
theorem am_cw19 : Cond.code am_m19.1.2.1 am_m19.1.2.2 am_m19.2.1.1 am_m19.2.1.2.1 ∈ am_ts := am_ts_in (i := 730) rfl rfl
set_option maxRecDepth 1000000 in
theorem am_cw20 : Cond.code am_m20.1.2.1 am_m20.1.2.2 am_m20.2.1.1 am_m20.2.1.2.1 ∈ am_ts := am_ts_in (i := 733) rfl rfl
set_option maxRecDepth 1000000 in
theorem am_cw21 : Cond.code am_m21.1.2.1 am_m21.1.2.2 am_m21.2.1.1 am_m21.2.1.2.1 ∈ am_ts := am_ts_in (i := 737) rfl rfl
set_option maxRecDepth 1000000 in
theorem am_cw22 : Cond.code am_m22.1.2.1 am_m22.1.2.2 am_m22.2.1.1 am_m22.2.1.2.1 ∈ am_ts := am_ts_in (i := 740) rfl rfl
set_option maxRecDepth 1000000 in
theorem am_cw23 : Cond.code am_m23.1.2.1 am_m23.1.2.2 am_m23.2.1.1 am_m23.2.1.2.1 ∈ am_ts := am_ts_in (i := 744) rfl rfl
set_option maxRecDepth 1000000 in
theorem am_cw24 : Cond.code am_m24.1.2.1 am_m24.1.2.2 am_m24.2.1.1 am_m24.2.1.2.1 ∈ am_ts := am_ts_in (i := 752) rfl rfl
set_option maxRecDepth 1000000 in
theorem am_cw25 : Cond.code am_m25.1.2.1 am_m25.1.2.2 am_m25.2.1.1 am_m25.2.1.2.1 ∈ am_ts := am_ts_in (i := 756) rfl rfl
set_option maxRecDepth 1000000 in
theorem am_cw26 : Cond.code am_m26.1.2.1 am_m26.1.2.2 am_m26.2.1.1 am_m26.2.1.2.1 ∈ am_ts := am_ts_in (i := 760) rfl rfl
set_option maxRecDepth 1000000 in
theorem am_cw27 : Cond.code am_m27.1.2.1 am_m27.1.2.2 am_m27.2.1.1 am_m27.2.1.2.1 ∈ am_ts := am_ts_in (i := 764) rfl rfl
set_option maxRecDepth 1000000 in
theorem am_cw28 : Cond.code am_m28.1.2.1 am_m28.1.2.2 am_m28.2.1.1 am_m28.2.1.2.1 ∈ am_ts := am_ts_in (i := 768) rfl rfl
set_option maxRecDepth 1000000 in
theorem am_cw29 : Cond.code am_m29.1.2.1 am_m29.1.2.2 am_m29.2.1.1 am_m29.2.1.2.1 ∈ am_ts := am_ts_in (i := 772) rfl rfl
set_option maxRecDepth 1000000 in
theorem am_cw30 : Cond.code am_m30.1.2.1 am_m30.1.2.2 am_m30.2.1.1 am_m30.2.1.2.1 ∈ am_ts := am_ts_in (i := 776) rfl rfl
set_option maxRecDepth 1000000 in
theorem am_cw31 : Cond.code am_m31.1.2.1 am_m31.1.2.2 am_m31.2.1.1 am_m31.2.1.2.1 ∈ am_ts := am_ts_in (i := 780) rfl rfl
set_option maxRecDepth 1000000 in
theorem am_cw32 : Cond.code am_m32.1.2.1 am_m32.1.2.2 am_m32.2.1.1 am_m32.2.1.2.1 ∈ am_ts := am_ts_in (i := 784) rfl rfl
set_option maxRecDepth 1000000 in
theorem am_cw33 : Cond.code am_m33.1.2.1 am_m33.1.2.2 am_m33.2.1.1 am_m33.2.1.2.1 ∈ am_ts := am_ts_in (i := 788) rfl rfl
set_option maxRecDepth 1000000 in
theorem am_cw34 : Cond.code am_m34.1.2.1 am_m34.1.2.2 am_m34.2.1.1 am_m34.2.1.2.1 ∈ am_ts := am_ts_in (i := 792) rfl rfl
set_option maxRecDepth 1000000 in
theorem am_cw35 : Cond.code am_m35.1.2.1 am_m35.1.2.2 am_m35.2.1.1 am_m35.2.1.2.1 ∈ am_ts := am_ts_in (i := 796) rfl rfl
set_option maxRecDepth 1000000 in
theorem am_cw36 : Cond.code am_m36.1.2.1 am_m36.1.2.2 am_m36.2.1.1 am_m36.2.1.2.1 ∈ am_ts := am_ts_in (i := 800) rfl rfl
set_option maxRecDepth 1000000 in
theorem am_cw37 : Cond.code am_m37.1.2.1 am_m37.1.2.2 am_m37.2.1.1 am_m37.2.1.2.1 ∈ am_ts := am_ts_in (i := 804) rfl rfl
set_option maxRecDepth 1000000 in
theorem am_cw38 : Cond.code am_m38.1.2.1 am_m38.1.2.2 am_m38.2.1.1 am_m38.2.1.2.1 ∈ am_ts := am_ts_in (i := 808) rfl rfl
set_option maxRecDepth 1000000 in
theorem am_cw39 : Cond.code am_m39.1.2.1 am_m39.1.2.2 am_m39.2.1.1 am_m39.2.1.2.1 ∈ am_ts := am_ts_in (i := 812) rfl rfl
set_option maxRecDepth 1000000 in
theorem am_cw40 : Cond.code am_m40.1.2.1 am_m40.1.2.2 am_m40.2.1.1 am_m40.2.1.2.1 ∈ am_ts := am_ts_in (i := 816) rfl rfl
set_option maxRecDepth 1000000 in
theorem am_cw41 : Cond.code am_m41.1.2.1 am_m41.1.2.2 am_m41.2.1.1 am_m41.2.1.2.1 ∈ am_ts := am_ts_in (i := 820) rfl rfl
set_option maxRecDepth 1000000 in
theorem am_cw42 : Cond.code am_m42.1.2.1 am_m42.1.2.2 am_m42.2.1.1 am_m42.2.1.2.1 ∈ am_ts := am_ts_in (i := 825) rfl rfl
set_option maxRecDepth 1000000 in
theorem am_cw43 : Cond.code am_m43.1.2.1 am_m43.1.2.2 am_m43.2.1.1 am_m43.2.1.2.1 ∈ am_ts := am_ts_in (i := 829) rfl rfl
set_option maxRecDepth 1000000 in
theorem am_cw44 : Cond.code am_m44.1.2.1 am_m44.1.2.2 am_m44.2.1.1 am_m44.2.1.2.1 ∈ am_ts := am_ts_in (i := 833) rfl rfl
set_option maxRecDepth 1000000 in
theorem am_cw45 : Cond.code am_m45.1.2.1 am_m45.1.2.2 am_m45.2.1.1 am_m45.2.1.2.1 ∈ am_ts := am_ts_in (i := 837) rfl rfl
set_option maxRecDepth 1000000 in
theorem am_cw46 : Cond.code am_m46.1.2.1 am_m46.1.2.2 am_m46.2.1.1 am_m46.2.1.2.1 ∈ am_ts := am_ts_in (i := 841) rfl rfl
set_option maxRecDepth 1000000 in
theorem am_cw47 : Cond.code am_m47.1.2.1 am_m47.1.2.2 am_m47.2.1.1 am_m47.2.1.2.1 ∈ am_ts := am_ts_in (i := 844) rfl rfl
set_option maxRecDepth 1000000 in
theorem am_cw48 : Cond.code am_m48.1.2.1 am_m48.1.2.2 am_m48.2.1.1 am_m48.2.1.2.1 ∈ am_ts := am_ts_in (i := 848) rfl rfl
set_option maxRecDepth 1000000 in
theorem am_cw49 : Cond.code am_m49.1.2.1 am_m49.1.2.2 am_m49.2.1.1 am_m49.2.1.2.1 ∈ am_ts := am_ts_in (i := 855) rfl rfl
set_option maxRecDepth 1000000 in
theorem am_cw50 : Cond.code am_m50.1.2.1 am_m50.1.2.2 am_m50.2.1.1 am_m50.2.1.2.1 ∈ am_ts := am_ts_in (i := 859) rfl rfl
set_option maxRecDepth 1000000 in
theorem am_cw51 : Cond.code am_m51.1.2.1 am_m51.1.2.2 am_m51.2.1.1 am_m51.2.1.2.1 ∈ am_ts := am_ts_in (i := 863) rfl rfl
set_option maxRecDepth 1000000 in
theorem am_cw52 : Cond.code am_m52.1.2.1 am_m52.1.2.2 am_m52.2.1.1 am_m52.2.1.2.1 ∈ am_ts := am_ts_in (i := 867) rfl rfl
set_option maxRecDepth 1000000 in
theorem am_cw53 : Cond.code am_m53.1.2.1 am_m53.1.2.2 am_m53.2.1.1 am_m53.2.1.2.1 ∈ am_ts := am_ts_in (i := 871) rfl rfl
set_option maxRecDepth 1000000 in
theorem am_cw54 : Cond.code am_m54.1.2.1 am_m54.1.2.2 am_m54.2.1.1 am_m54.2.1.2.1 ∈ am_ts := am_ts_in (i := 875) rfl rfl
set_option maxRecDepth 1000000 in
theorem am_cw55 : Cond.code am_m55.1.2.1 am_m55.1.2.2 am_m55.2.1.1 am_m55.2.1.2.1 ∈ am_ts := am_ts_in (i := 878) rfl rfl
set_option maxRecDepth 1000000 in
theorem am_cw56 : Cond.code am_m56.1.2.1 am_m56.1.2.2 am_m56.2.1.1 am_m56.2.1.2.1 ∈ am_ts := am_ts_in (i := 884) rfl rfl
set_option maxRecDepth 1000000 in
theorem am_cw57 : Cond.code am_m57.1.2.1 am_m57.1.2.2 am_m57.2.1.1 am_m57.2.1.2.1 ∈ am_ts := am_ts_in (i := 889) rfl rfl
set_option maxRecDepth 1000000 in
theorem am_cw58 : Cond.code am_m58.1.2.1 am_m58.1.2.2 am_m58.2.1.1 am_m58.2.1.2.1 ∈ am_ts := am_ts_in (i := 893) rfl rfl
set_option maxRecDepth 1000000 in
theorem am_cw59 : Cond.code am_m59.1.2.1 am_m59.1.2.2 am_m59.2.1.1 am_m59.2.1.2.1 ∈ am_ts := am_ts_in (i := 897) rfl rfl
set_option maxRecDepth 1000000 in
theorem am_cw60 : Cond.code am_m60.1.2.1 am_m60.1.2.2 am_m60.2.1.1 am_m60.2.1.2.1 ∈ am_ts := am_ts_in (i := 901) rfl rfl
set_option maxRecDepth 1000000 in
theorem am_cw61 : Cond.code am_m61.1.2.1 am_m61.1.2.2 am_m61.2.1.1 am_m61.2.1.2.1 ∈ am_ts := am_ts_in (i := 907) rfl rfl
set_option maxRecDepth 1000000 in
theorem am_cw62 : Cond.code am_m62.1.2.1 am_m62.1.2.2 am_m62.2.1.1 am_m62.2.1.2.1 ∈ am_ts := am_ts_in (i := 910) rfl rfl
set_option maxRecDepth 1000000 in
theorem am_cw63 : Cond.code am_m63.1.2.1 am_m63.1.2.2 am_m63.2.1.1 am_m63.2.1.2.1 ∈ am_ts := am_ts_in (i := 915) rfl rfl
set_option maxRecDepth 1000000 in
theorem am_cw64 : Cond.code am_m64.1.2.1 am_m64.1.2.2 am_m64.2.1.1 am_m64.2.1.2.1 ∈ am_ts := am_ts_in (i := 919) rfl rfl
set_option maxRecDepth 1000000 in
theorem am_cw65 : Cond.code am_m65.1.2.1 am_m65.1.2.2 am_m65.2.1.1 am_m65.2.1.2.1 ∈ am_ts := am_ts_in (i := 924) rfl rfl
set_option maxRecDepth 1000000 in
theorem am_cw66 : Cond.code am_m66.1.2.1 am_m66.1.2.2 am_m66.2.1.1 am_m66.2.1.2.1 ∈ am_ts := am_ts_in (i := 928) rfl rfl
set_option maxRecDepth 1000000 in
theorem am_cw67 : Cond.code am_m67.1.2.1 am_m67.1.2.2 am_m67.2.1.1 am_m67.2.1.2.1 ∈ am_ts := am_ts_in (i := 932) rfl rfl
set_option maxRecDepth 1000000 in
theorem am_cw68 : Cond.code am_m68.1.2.1 am_m68.1.2.2 am_m68.2.1.1 am_m68.2.1.2.1 ∈ am_ts := am_ts_in (i := 937) rfl rfl
set_option maxRecDepth 1000000 in
theorem am_cw69 : Cond.code am_m69.1.2.1 am_m69.1.2.2 am_m69.2.1.1 am_m69.2.1.2.1 ∈ am_ts := am_ts_in (i := 942) rfl rfl
set_option maxRecDepth 1000000 in
theorem am_cw70 : Cond.code am_m70.1.2.1 am_m70.1.2.2 am_m70.2.1.1 am_m70.2.1.2.1 ∈ am_ts := am_ts_in (i := 946) rfl rfl
set_option maxRecDepth 1000000 in
theorem am_cw71 : Cond.code am_m71.1.2.1 am_m71.1.2.2 am_m71.2.1.1 am_m71.2.1.2.1 ∈ am_ts := am_ts_in (i := 950) rfl rfl
set_option maxRecDepth 1000000 in
theorem am_cw72 : Cond.code am_m72.1.2.1 am_m72.1.2.2 am_m72.2.1.1 am_m72.2.1.2.1 ∈ am_ts := am_ts_in (i := 954) rfl rfl
set_option maxRecDepth 1000000 in
theorem am_cw73 : Cond.code am_m73.1.2.1 am_m73.1.2.2 am_m73.2.1.1 am_m73.2.1.2.1 ∈ am_ts := am_ts_in (i := 958) rfl rfl
set_option maxRecDepth 1000000 in
theorem am_cw74 : Cond.code am_m74.1.2.1 am_m74.1.2.2 am_m74.2.1.1 am_m74.2.1.2.1 ∈ am_ts := am_ts_in (i := 964) rfl rfl
set_option maxRecDepth 1000000 in
theorem am_cw75 : Cond.code am_m75.1.2.1 am_m75.1.2.2 am_m75.2.1.1 am_m75.2.1.2.1 ∈ am_ts := am_ts_in (i := 968) rfl rfl
set_option maxRecDepth 1000000 in
theorem am_cw76 : Cond.code am_m76.1.2.1 am_m76.1.2.2 am_m76.2.1.1 am_m76.2.1.2.1 ∈ am_ts := am_ts_in (i := 972) rfl rfl
set_option maxRecDepth 1000000 in
theorem am_cw77 : Cond.code am_m77.1.2.1 am_m77.1.2.2 am_m77.2.1.1 am_m77.2.1.2.1 ∈ am_ts := am_ts_in (i := 979) rfl rfl
set_option maxRecDepth 1000000 in
theorem am_cw78 : Cond.code am_m78.1.2.1 am_m78.1.2.2 am_m78.2.1.1 am_m78.2.1.2.1 ∈ am_ts := am_ts_in (i := 983) rfl rfl
set_option maxRecDepth 1000000 in
theorem am_cw79 : Cond.code am_m79.1.2.1 am_m79.1.2.2 am_m79.2.1.1 am_m79.2.1.2.1 ∈ am_ts := am_ts_in (i := 987) rfl rfl
set_option maxRecDepth 1000000 in
theorem am_cw80 : Cond.code am_m80.1.2.1 am_m80.1.2.2 am_m80.2.1.1 am_m80.2.1.2.1 ∈ am_ts := am_ts_in (i := 991) rfl rfl
set_option maxRecDepth 1000000 in
theorem am_cw81 : Cond.code am_m81.1.2.1 am_m81.1.2.2 am_m81.2.1.1 am_m81.2.1.2.1 ∈ am_ts := am_ts_in (i := 995) rfl rfl
set_option maxRecDepth 1000000 in
theorem am_cw82 : Cond.code am_m82.1.2.1 am_m82.1.2.2 am_m82.2.1.1 am_m82.2.1.2.1 ∈ am_ts := am_ts_in (i := 999) rfl rfl
set_option maxRecDepth 1000000 in
theorem am_cw83 : Cond.code am_m83.1.2.1 am_m83.1.2.2 am_m83.2.1.1 am_m83.2.1.2.1 ∈ am_ts := am_ts_in (i := 1006) rfl rfl
set_option maxRecDepth 1000000 in
theorem am_cw84 : Cond.code am_m84.1.2.1 am_m84.1.2.2 am_m84.2.1.1 am_m84.2.1.2.1 ∈ am_ts := am_ts_in (i := 1011) rfl rfl
set_option maxRecDepth 1000000 in
theorem am_cw85 : Cond.code am_m85.1.2.1 am_m85.1.2.2 am_m85.2.1.1 am_m85.2.1.2.1 ∈ am_ts := am_ts_in (i := 1015) rfl rfl
set_option maxRecDepth 1000000 in
theorem am_cw86 : Cond.code am_m86.1.2.1 am_m86.1.2.2 am_m86.2.1.1 am_m86.2.1.2.1 ∈ am_ts := am_ts_in (i := 1020) rfl rfl
set_option maxRecDepth 1000000 in
theorem am_cw87 : Cond.code am_m87.1.2.1 am_m87.1.2.2 am_m87.2.1.1 am_m87.2.1.2.1 ∈ am_ts := am_ts_in (i := 1024) rfl rfl
set_option maxRecDepth 1000000 in
theorem am_cw88 : Cond.code am_m88.1.2.1 am_m88.1.2.2 am_m88.2.1.1 am_m88.2.1.2.1 ∈ am_ts := am_ts_in (i := 1028) rfl rfl
set_option maxRecDepth 1000000 in
theorem am_cw89 : Cond.code am_m89.1.2.1 am_m89.1.2.2 am_m89.2.1.1 am_m89.2.1.2.1 ∈ am_ts := am_ts_in (i := 1033) rfl rfl
set_option maxRecDepth 1000000 in
theorem am_cw90 : Cond.code am_m90.1.2.1 am_m90.1.2.2 am_m90.2.1.1 am_m90.2.1.2.1 ∈ am_ts := am_ts_in (i := 1037) rfl rfl
set_option maxRecDepth 1000000 in
theorem am_cw91 : Cond.code am_m91.1.2.1 am_m91.1.2.2 am_m91.2.1.1 am_m91.2.1.2.1 ∈ am_ts := am_ts_in (i := 1041) rfl rfl
set_option maxRecDepth 1000000 in
theorem am_cw92 : Cond.code am_m92.1.2.1 am_m92.1.2.2 am_m92.2.1.1 am_m92.2.1.2.1 ∈ am_ts := am_ts_in (i := 1046) rfl rfl
set_option maxRecDepth 1000000 in
theorem am_cw93 : Cond.code am_m93.1.2.1 am_m93.1.2.2 am_m93.2.1.1 am_m93.2.1.2.1 ∈ am_ts := am_ts_in (i := 1050) rfl rfl
set_option maxRecDepth 1000000 in
theorem am_cw94 : Cond.code am_m94.1.2.1 am_m94.1.2.2 am_m94.2.1.1 am_m94.2.1.2.1 ∈ am_ts := am_ts_in (i := 1054) rfl rfl
set_option maxRecDepth 1000000 in
theorem am_cw95 : Cond.code am_m95.1.2.1 am_m95.1.2.2 am_m95.2.1.1 am_m95.2.1.2.1 ∈ am_ts := am_ts_in (i := 1060) rfl rfl
set_option maxRecDepth 1000000 in
theorem am_cw96 : Cond.code am_m96.1.2.1 am_m96.1.2.2 am_m96.2.1.1 am_m96.2.1.2.1 ∈ am_ts := am_ts_in (i := 1064) rfl rfl
set_option maxRecDepth 1000000 in
theorem am_cw97 : Cond.code am_m97.1.2.1 am_m97.1.2.2 am_m97.2.1.1 am_m97.2.1.2.1 ∈ am_ts := am_ts_in (i := 1069) rfl rfl
set_option maxRecDepth 1000000 in
theorem am_cw98 : Cond.code am_m98.1.2.1 am_m98.1.2.2 am_m98.2.1.1 am_m98.2.1.2.1 ∈ am_ts := am_ts_in (i := 1073) rfl rfl
set_option maxRecDepth 1000000 in
theorem am_cw99 : Cond.code am_m99.1.2.1 am_m99.1.2.2 am_m99.2.1.1 am_m99.2.1.2.1 ∈ am_ts := am_ts_in (i := 1077) rfl rfl
set_option maxRecDepth 1000000 in
theorem am_cw100 : Cond.code am_m100.1.2.1 am_m100.1.2.2 am_m100.2.1.1 am_m100.2.1.2.1 ∈ am_ts := am_ts_in (i := 1083) rfl rfl
set_option maxRecDepth 1000000 in
theorem am_cw101 : Cond.code am_m101.1.2.1 am_m101.1.2.2 am_m101.2.1.1 am_m101.2.1.2.1 ∈ am_ts := am_ts_in (i := 1087) rfl rfl
set_option maxRecDepth 1000000 in
theorem am_cw102 : Cond.code am_m102.1.2.1 am_m102.1.2.2 am_m102.2.1.1 am_m102.2.1.2.1 ∈ am_ts := am_ts_in (i := 1095) rfl rfl
set_option maxRecDepth 1000000 in
theorem am_cw103 : Cond.code am_m103.1.2.1 am_m103.1.2.2 am_m103.2.1.1 am_m103.2.1.2.1 ∈ am_ts := am_ts_in (i := 1099) rfl rfl
set_option maxRecDepth 1000000 in
theorem am_cw104 : Cond.code am_m104.1.2.1 am_m104.1.2.2 am_m104.2.1.1 am_m104.2.1.2.1 ∈ am_ts := am_ts_in (i := 1103) rfl rfl
set_option maxRecDepth 1000000 in
theorem am_cw105 : Cond.code am_m105.1.2.1 am_m105.1.2.2 am_m105.2.1.1 am_m105.2.1.2.1 ∈ am_ts := am_ts_in (i := 1107) rfl rfl
set_option maxRecDepth 1000000 in
theorem am_cw106 : Cond.code am_m106.1.2.1 am_m106.1.2.2 am_m106.2.1.1 am_m106.2.1.2.1 ∈ am_ts := am_ts_in (i := 1111) rfl rfl
set_option maxRecDepth 1000000 in
theorem am_cw107 : Cond.code am_m107.1.2.1 am_m107.1.2.2 am_m107.2.1.1 am_m107.2.1.2.1 ∈ am_ts := am_ts_in (i := 1115) rfl rfl
set_option maxRecDepth 1000000 in
theorem am_cw108 : Cond.code am_m108.1.2.1 am_m108.1.2.2 am_m108.2.1.1 am_m108.2.1.2.1 ∈ am_ts := am_ts_in (i := 1118) rfl rfl
set_option maxRecDepth 1000000 in
theorem am_cw109 : Cond.code am_m109.1.2.1 am_m109.1.2.2 am_m109.2.1.1 am_m109.2.1.2.1 ∈ am_ts := am_ts_in (i := 1122) rfl rfl
set_option maxRecDepth 1000000 in
theorem am_cw110 : Cond.code am_m110.1.2.1 am_m110.1.2.2 am_m110.2.1.1 am_m110.2.1.2.1 ∈ am_ts := am_ts_in (i := 1126) rfl rfl
set_option maxRecDepth 1000000 in
theorem am_cw111 : Cond.code am_m111.1.2.1 am_m111.1.2.2 am_m111.2.1.1 am_m111.2.1.2.1 ∈ am_ts := am_ts_in (i := 1130) rfl rfl
set_option maxRecDepth 1000000 in
theorem am_cw112 : Cond.code am_m112.1.2.1 am_m112.1.2.2 am_m112.2.1.1 am_m112.2.1.2.1 ∈ am_ts := am_ts_in (i := 1134) rfl rfl
set_option maxRecDepth 1000000 in
theorem am_cw113 : Cond.code am_m113.1.2.1 am_m113.1.2.2 am_m113.2.1.1 am_m113.2.1.2.1 ∈ am_ts := am_ts_in (i := 1138) rfl rfl
set_option maxRecDepth 1000000 in
theorem am_cw114 : Cond.code am_m114.1.2.1 am_m114.1.2.2 am_m114.2.1.1 am_m114.2.1.2.1 ∈ am_ts := am_ts_in (i := 1142) rfl rfl
set_option maxRecDepth 1000000 in
theorem am_cw115 : Cond.code am_m115.1.2.1 am_m115.1.2.2 am_m115.2.1.1 am_m115.2.1.2.1 ∈ am_ts := am_ts_in (i := 1146) rfl rfl
set_option maxRecDepth 1000000 in
theorem am_cw116 : Cond.code am_m116.1.2.1 am_m116.1.2.2 am_m116.2.1.1 am_m116.2.1.2.1 ∈ am_ts := am_ts_in (i := 1150) rfl rfl
set_option maxRecDepth 1000000 in
theorem am_cw117 : Cond.code am_m117.1.2.1 am_m117.1.2.2 am_m117.2.1.1 am_m117.2.1.2.1 ∈ am_ts := am_ts_in (i := 1156) rfl rfl
set_option maxRecDepth 1000000 in
theorem am_cw118 : Cond.code am_m118.1.2.1 am_m118.1.2.2 am_m118.2.1.1 am_m118.2.1.2.1 ∈ am_ts := am_ts_in (i := 1161) rfl rfl
set_option maxRecDepth 1000000 in
theorem am_cw119 : Cond.code am_m119.1.2.1 am_m119.1.2.2 am_m119.2.1.1 am_m119.2.1.2.1 ∈ am_ts := am_ts_in (i := 1165) rfl rfl
set_option maxRecDepth 1000000 in
theorem am_cw120 : Cond.code am_m120.1.2.1 am_m120.1.2.2 am_m120.2.1.1 am_m120.2.1.2.1 ∈ am_ts := am_ts_in (i := 1169) rfl rfl
set_option maxRecDepth 1000000 in
theorem am_cw121 : Cond.code am_m121.1.2.1 am_m121.1.2.2 am_m121.2.1.1 am_m121.2.1.2.1 ∈ am_ts := am_ts_in (i := 1172) rfl rfl
set_option maxRecDepth 1000000 in
theorem am_cw122 : Cond.code am_m122.1.2.1 am_m122.1.2.2 am_m122.2.1.1 am_m122.2.1.2.1 ∈ am_ts := am_ts_in (i := 1176) rfl rfl
set_option maxRecDepth 1000000 in
theorem am_cw123 : Cond.code am_m123.1.2.1 am_m123.1.2.2 am_m123.2.1.1 am_m123.2.1.2.1 ∈ am_ts := am_ts_in (i := 1180) rfl rfl
set_option maxRecDepth 1000000 in
theorem am_cw124 : Cond.code am_m124.1.2.1 am_m124.1.2.2 am_m124.2.1.1 am_m124.2.1.2.1 ∈ am_ts := am_ts_in (i := 1184) rfl rfl
set_option maxRecDepth 1000000 in
theorem am_cw125 : Cond.code am_m125.1.2.1 am_m125.1.2.2 am_m125.2.1.1 am_m125.2.1.2.1 ∈ am_ts := am_ts_in (i := 1188) rfl rfl
set_option maxRecDepth 1000000 in
theorem am_cw126 : Cond.code am_m126.1.2.1 am_m126.1.2.2 am_m126.2.1.1 am_m126.2.1.2.1 ∈ am_ts := am_ts_in (i := 1192) rfl rfl
set_option maxRecDepth 1000000 in
theorem am_cw127 : Cond.code am_m127.1.2.1 am_m127.1.2.2 am_m127.2.1.1 am_m127.2.1.2.1 ∈ am_ts := am_ts_in (i := 1196) rfl rfl
set_option maxRecDepth 1000000 in
theorem am_cw128 : Cond.code am_m128.1.2.1 am_m128.1.2.2 am_m128.2.1.1 am_m128.2.1.2.1 ∈ am_ts := am_ts_in (i := 1200) rfl rfl
set_option maxRecDepth 1000000 in
theorem am_cw129 : Cond.code am_m129.1.2.1 am_m129.1.2.2 am_m129.2.1.1 am_m129.2.1.2.1 ∈ am_ts := am_ts_in (i := 1204) rfl rfl
set_option maxRecDepth 1000000 in
theorem am_cw130 : Cond.code am_m130.1.2.1 am_m130.1.2.2 am_m130.2.1.1 am_m130.2.1.2.1 ∈ am_ts := am_ts_in (i := 1208) rfl rfl
set_option maxRecDepth 1000000 in
theorem am_cw131 : Cond.code am_m131.1.2.1 am_m131.1.2.2 am_m131.2.1.1 am_m131.2.1.2.1 ∈ am_ts := am_ts_in (i := 1212) rfl rfl
set_option maxRecDepth 1000000 in
theorem am_cw132 : Cond.code am_m132.1.2.1 am_m132.1.2.2 am_m132.2.1.1 am_m132.2.1.2.1 ∈ am_ts := am_ts_in (i := 1216) rfl rfl
set_option maxRecDepth 1000000 in
theorem am_cw133 : Cond.code am_m133.1.2.1 am_m133.1.2.2 am_m133.2.1.1 am_m133.2.1.2.1 ∈ am_ts := am_ts_in (i := 1221) rfl rfl
set_option maxRecDepth 1000000 in
theorem am_cw134 : Cond.code am_m134.1.2.1 am_m134.1.2.2 am_m134.2.1.1 am_m134.2.1.2.1 ∈ am_ts := am_ts_in (i := 1225) rfl rfl
set_option maxRecDepth 1000000 in
theorem am_cw135 : Cond.code am_m135.1.2.1 am_m135.1.2.2 am_m135.2.1.1 am_m135.2.1.2.1 ∈ am_ts := am_ts_in (i := 1229) rfl rfl
set_option maxRecDepth 1000000 in
theorem am_cw136 : Cond.code am_m136.1.2.1 am_m136.1.2.2 am_m136.2.1.1 am_m136.2.1.2.1 ∈ am_ts := am_ts_in (i := 1235) rfl rfl
set_option maxRecDepth 1000000 in
theorem am_cw137 : Cond.code am_m137.1.2.1 am_m137.1.2.2 am_m137.2.1.1 am_m137.2.1.2.1 ∈ am_ts := am_ts_in (i := 1239) rfl rfl
set_option maxRecDepth 1000000 in
theorem am_cw138 : Cond.code am_m138.1.2.1 am_m138.1.2.2 am_m138.2.1.1 am_m138.2.1.2.1 ∈ am_ts := am_ts_in (i := 1243) rfl rfl
set_option maxRecDepth 1000000 in
theorem am_cw139 : Cond.code am_m139.1.2.1 am_m139.1.2.2 am_m139.2.1.1 am_m139.2.1.2.1 ∈ am_ts := am_ts_in (i := 1247) rfl rfl
set_option maxRecDepth 1000000 in
theorem am_cw140 : Cond.code am_m140.1.2.1 am_m140.1.2.2 am_m140.2.1.1 am_m140.2.1.2.1 ∈ am_ts := am_ts_in (i := 1251) rfl rfl
set_option maxRecDepth 1000000 in
theorem am_cw141 : Cond.code am_m141.1.2.1 am_m141.1.2.2 am_m141.2.1.1 am_m141.2.1.2.1 ∈ am_ts := am_ts_in (i := 1255) rfl rfl
set_option maxRecDepth 1000000 in
theorem am_cw142 : Cond.code am_m142.1.2.1 am_m142.1.2.2 am_m142.2.1.1 am_m142.2.1.2.1 ∈ am_ts := am_ts_in (i := 1355) rfl rfl
set_option maxRecDepth 1000000 in
theorem am_cw143 : Cond.code am_m143.1.2.1 am_m143.1.2.2 am_m143.2.1.1 am_m143.2.1.2.1 ∈ am_ts := am_ts_in (i := 1360) rfl rfl
set_option maxRecDepth 1000000 in
theorem am_cw144 : Cond.code am_m144.1.2.1 am_m144.1.2.2 am_m144.2.1.1 am_m144.2.1.2.1 ∈ am_ts := am_ts_in (i := 1364) rfl rfl
set_option maxRecDepth 1000000 in
theorem am_cw145 : Cond.code am_m145.1.2.1 am_m145.1.2.2 am_m145.2.1.1 am_m145.2.1.2.1 ∈ am_ts := am_ts_in (i := 1367) rfl rfl
set_option maxRecDepth 1000000 in
theorem am_cw146 : Cond.code am_m146.1.2.1 am_m146.1.2.2 am_m146.2.1.1 am_m146.2.1.2.1 ∈ am_ts := am_ts_in (i := 1371) rfl rfl
set_option maxRecDepth 1000000 in
theorem am_cw147 : Cond.code am_m147.1.2.1 am_m147.1.2.2 am_m147.2.1.1 am_m147.2.1.2.1 ∈ am_ts := am_ts_in (i := 1375) rfl rfl
set_option maxRecDepth 1000000 in
theorem am_cw148 : Cond.code am_m148.1.2.1 am_m148.1.2.2 am_m148.2.1.1 am_m148.2.1.2.1 ∈ am_ts := am_ts_in (i := 1379) rfl rfl
set_option maxRecDepth 1000000 in
theorem am_cw149 : Cond.code am_m149.1.2.1 am_m149.1.2.2 am_m149.2.1.1 am_m149.2.1.2.1 ∈ am_ts := am_ts_in (i := 1631) rfl rfl
set_option maxRecDepth 1000000 in
theorem am_cw150 : Cond.code am_m150.1.2.1 am_m150.1.2.2 am_m150.2.1.1 am_m150.2.1.2.1 ∈ am_ts := am_ts_in (i := 1635) rfl rfl
set_option maxRecDepth 1000000 in
theorem am_cw151 : Cond.code am_m151.1.2.1 am_m151.1.2.2 am_m151.2.1.1 am_m151.2.1.2.1 ∈ am_ts := am_ts_in (i := 1639) rfl rfl
set_option maxRecDepth 1000000 in
theorem am_cw152 : Cond.code am_m152.1.2.1 am_m152.1.2.2 am_m152.2.1.1 am_m152.2.1.2.1 ∈ am_ts := am_ts_in (i := 1643) rfl rfl
set_option maxRecDepth 1000000 in
theorem am_cw153 : Cond.code am_m153.1.2.1 am_m153.1.2.2 am_m153.2.1.1 am_m153.2.1.2.1 ∈ am_ts := am_ts_in (i := 1647) rfl rfl
set_option maxRecDepth 1000000 in
theorem am_cw154 : Cond.code am_m154.1.2.1 am_m154.1.2.2 am_m154.2.1.1 am_m154.2.1.2.1 ∈ am_ts := am_ts_in (i := 1651) rfl rfl
set_option maxRecDepth 1000000 in
theorem am_cw155 : Cond.code am_m155.1.2.1 am_m155.1.2.2 am_m155.2.1.1 am_m155.2.1.2.1 ∈ am_ts := am_ts_in (i := 1655) rfl rfl
set_option maxRecDepth 1000000 in
theorem am_cw156 : Cond.code am_m156.1.2.1 am_m156.1.2.2 am_m156.2.1.1 am_m156.2.1.2.1 ∈ am_ts := am_ts_in (i := 1660) rfl rfl
set_option maxRecDepth 1000000 in
theorem am_cw157 : Cond.code am_m157.1.2.1 am_m157.1.2.2 am_m157.2.1.1 am_m157.2.1.2.1 ∈ am_ts := am_ts_in (i := 1664) rfl rfl
set_option maxRecDepth 1000000 in
theorem am_cw158 : Cond.code am_m158.1.2.1 am_m158.1.2.2 am_m158.2.1.1 am_m158.2.1.2.1 ∈ am_ts := am_ts_in (i := 1668) rfl rfl
set_option maxRecDepth 1000000 in
theorem am_cw159 : Cond.code am_m159.1.2.1 am_m159.1.2.2 am_m159.2.1.1 am_m159.2.1.2.1 ∈ am_ts := am_ts_in (i := 1672) rfl rfl
set_option maxRecDepth 1000000 in
theorem am_cw160 : Cond.code am_m160.1.2.1 am_m160.1.2.2 am_m160.2.1.1 am_m160.2.1.2.1 ∈ am_ts := am_ts_in (i := 1676) rfl rfl
set_option maxRecDepth 1000000 in
theorem am_cw161 : Cond.code am_m161.1.2.1 am_m161.1.2.2 am_m161.2.1.1 am_m161.2.1.2.1 ∈ am_ts := am_ts_in (i := 1680) rfl rfl
set_option maxRecDepth 1000000 in
theorem am_cw162 : Cond.code am_m162.1.2.1 am_m162.1.2.2 am_m162.2.1.1 am_m162.2.1.2.1 ∈ am_ts := am_ts_in (i := 1683) rfl rfl
set_option maxRecDepth 1000000 in
theorem am_cw163 : Cond.code am_m163.1.2.1 am_m163.1.2.2 am_m163.2.1.1 am_m163.2.1.2.1 ∈ am_ts := am_ts_in (i := 1687) rfl rfl
set_option maxRecDepth 1000000 in
theorem am_cw164 : Cond.code am_m164.1.2.1 am_m164.1.2.2 am_m164.2.1.1 am_m164.2.1.2.1 ∈ am_ts := am_ts_in (i := 1691) rfl rfl
set_option maxRecDepth 1000000 in
theorem am_cw165 : Cond.code am_m165.1.2.1 am_m165.1.2.2 am_m165.2.1.1 am_m165.2.1.2.1 ∈ am_ts := am_ts_in (i := 1694) rfl rfl
set_option maxRecDepth 1000000 in
theorem am_cw166 : Cond.code am_m166.1.2.1 am_m166.1.2.2 am_m166.2.1.1 am_m166.2.1.2.1 ∈ am_ts := am_ts_in (i := 1698) rfl rfl
set_option maxRecDepth 1000000 in
theorem am_cw167 : Cond.code am_m167.1.2.1 am_m167.1.2.2 am_m167.2.1.1 am_m167.2.1.2.1 ∈ am_ts := am_ts_in (i := 1702) rfl rfl
set_option maxRecDepth 1000000 in
theorem am_cw168 : Cond.code am_m168.1.2.1 am_m168.1.2.2 am_m168.2.1.1 am_m168.2.1.2.1 ∈ am_ts := am_ts_in (i := 1706) rfl rfl
set_option maxRecDepth 1000000 in
theorem am_cw169 : Cond.code am_m169.1.2.1 am_m169.1.2.2 am_m169.2.1.1 am_m169.2.1.2.1 ∈ am_ts := am_ts_in (i := 1710) rfl rfl
set_option maxRecDepth 1000000 in
theorem am_cw170 : Cond.code am_m170.1.2.1 am_m170.1.2.2 am_m170.2.1.1 am_m170.2.1.2.1 ∈ am_ts := am_ts_in (i := 1714) rfl rfl
set_option maxRecDepth 1000000 in
theorem am_cw171 : Cond.code am_m171.1.2.1 am_m171.1.2.2 am_m171.2.1.1 am_m171.2.1.2.1 ∈ am_ts := am_ts_in (i := 1718) rfl rfl
set_option maxRecDepth 1000000 in
theorem am_cw172 : Cond.code am_m172.1.2.1 am_m172.1.2.2 am_m172.2.1.1 am_m172.2.1.2.1 ∈ am_ts := am_ts_in (i := 1722) rfl rfl
set_option maxRecDepth 1000000 in
theorem am_cw173 : Cond.code am_m173.1.2.1 am_m173.1.2.2 am_m173.2.1.1 am_m173.2.1.2.1 ∈ am_ts := am_ts_in (i := 1726) rfl rfl
set_option maxRecDepth 1000000 in
theorem am_cw174 : Cond.code am_m174.1.2.1 am_m174.1.2.2 am_m174.2.1.1 am_m174.2.1.2.1 ∈ am_ts := am_ts_in (i := 1730) rfl rfl
set_option maxRecDepth 1000000 in
theorem am_cw175 : Cond.code am_m175.1.2.1 am_m175.1.2.2 am_m175.2.1.1 am_m175.2.1.2.1 ∈ am_ts := am_ts_in (i := 1734) rfl rfl
set_option maxRecDepth 1000000 in
theorem am_cw176 : Cond.code am_m176.1.2.1 am_m176.1.2.2 am_m176.2.1.1 am_m176.2.1.2.1 ∈ am_ts := am_ts_in (i := 1738) rfl rfl
set_option maxRecDepth 1000000 in
theorem am_cw177 : Cond.code am_m177.1.2.1 am_m177.1.2.2 am_m177.2.1.1 am_m177.2.1.2.1 ∈ am_ts := am_ts_in (i := 1742) rfl rfl
set_option maxRecDepth 1000000 in
theorem am_cw178 : Cond.code am_m178.1.2.1 am_m178.1.2.2 am_m178.2.1.1 am_m178.2.1.2.1 ∈ am_ts := am_ts_in (i := 1746) rfl rfl
set_option maxRecDepth 1000000 in
theorem am_cw179 : Cond.code am_m179.1.2.1 am_m179.1.2.2 am_m179.2.1.1 am_m179.2.1.2.1 ∈ am_ts := am_ts_in (i := 1750) rfl rfl
set_option maxRecDepth 1000000 in
theorem am_cw180 : Cond.code am_m180.1.2.1 am_m180.1.2.2 am_m180.2.1.1 am_m180.2.1.2.1 ∈ am_ts := am_ts_in (i := 1753) rfl rfl
set_option maxRecDepth 1000000 in
theorem am_cw181 : Cond.code am_m181.1.2.1 am_m181.1.2.2 am_m181.2.1.1 am_m181.2.1.2.1 ∈ am_ts := am_ts_in (i := 1757) rfl rfl
set_option maxRecDepth 1000000 in
theorem am_cw182 : Cond.code am_m182.1.2.1 am_m182.1.2.2 am_m182.2.1.1 am_m182.2.1.2.1 ∈ am_ts := am_ts_in (i := 1761) rfl rfl
set_option maxRecDepth 1000000 in
theorem am_cw183 : Cond.code am_m183.1.2.1 am_m183.1.2.2 am_m183.2.1.1 am_m183.2.1.2.1 ∈ am_ts := am_ts_in (i := 1765) rfl rfl
set_option maxRecDepth 1000000 in
theorem am_cw184 : Cond.code am_m184.1.2.1 am_m184.1.2.2 am_m184.2.1.1 am_m184.2.1.2.1 ∈ am_ts := am_ts_in (i := 1769) rfl rfl
set_option maxRecDepth 1000000 in
theorem am_cw185 : Cond.code am_m185.1.2.1 am_m185.1.2.2 am_m185.2.1.1 am_m185.2.1.2.1 ∈ am_ts := am_ts_in (i := 1773) rfl rfl
set_option maxRecDepth 1000000 in
theorem am_cw186 : Cond.code am_m186.1.2.1 am_m186.1.2.2 am_m186.2.1.1 am_m186.2.1.2.1 ∈ am_ts := am_ts_in (i := 1777) rfl rfl
set_option maxRecDepth 1000000 in
theorem am_cw187 : Cond.code am_m187.1.2.1 am_m187.1.2.2 am_m187.2.1.1 am_m187.2.1.2.1 ∈ am_ts := am_ts_in (i := 1781) rfl rfl
set_option maxRecDepth 1000000 in
theorem am_cw188 : Cond.code am_m188.1.2.1 am_m188.1.2.2 am_m188.2.1.1 am_m188.2.1.2.1 ∈ am_ts := am_ts_in (i := 1786) rfl rfl
set_option maxRecDepth 1000000 in
theorem am_cw189 : Cond.code am_m189.1.2.1 am_m189.1.2.2 am_m189.2.1.1 am_m189.2.1.2.1 ∈ am_ts := am_ts_in (i := 1790) rfl rfl
set_option maxRecDepth 1000000 in
theorem am_cw190 : Cond.code am_m190.1.2.1 am_m190.1.2.2 am_m190.2.1.1 am_m190.2.1.2.1 ∈ am_ts := am_ts_in (i := 1794) rfl rfl
set_option maxRecDepth 1000000 in
theorem am_cw191 : Cond.code am_m191.1.2.1 am_m191.1.2.2 am_m191.2.1.1 am_m191.2.1.2.1 ∈ am_ts := am_ts_in (i := 1798) rfl rfl
set_option maxRecDepth 1000000 in
theorem am_cw192 : Cond.code am_m192.1.2.1 am_m192.1.2.2 am_m192.2.1.1 am_m192.2.1.2.1 ∈ am_ts := am_ts_in (i := 1802) rfl rfl
set_option maxRecDepth 1000000 in
theorem am_cw193 : Cond.code am_m193.1.2.1 am_m193.1.2.2 am_m193.2.1.1 am_m193.2.1.2.1 ∈ am_ts := am_ts_in (i := 1806) rfl rfl
set_option maxRecDepth 1000000 in
theorem am_cw194 : Cond.code am_m194.1.2.1 am_m194.1.2.2 am_m194.2.1.1 am_m194.2.1.2.1 ∈ am_ts := am_ts_in (i := 1812) rfl rfl
set_option maxRecDepth 1000000 in
theorem am_cw195 : Cond.code am_m195.1.2.1 am_m195.1.2.2 am_m195.2.1.1 am_m195.2.1.2.1 ∈ am_ts := am_ts_in (i := 1815) rfl rfl
set_option maxRecDepth 1000000 in
theorem am_cw196 : Cond.code am_m196.1.2.1 am_m196.1.2.2 am_m196.2.1.1 am_m196.2.1.2.1 ∈ am_ts := am_ts_in (i := 1819) rfl rfl
set_option maxRecDepth 1000000 in
theorem am_cw197 : Cond.code am_m197.1.2.1 am_m197.1.2.2 am_m197.2.1.1 am_m197.2.1.2.1 ∈ am_ts := am_ts_in (i := 1823) rfl rfl
set_option maxRecDepth 1000000 in
theorem am_cw198 : Cond.code am_m198.1.2.1 am_m198.1.2.2 am_m198.2.1.1 am_m198.2.1.2.1 ∈ am_ts := am_ts_in (i := 1827) rfl rfl
set_option maxRecDepth 1000000 in
theorem am_cw199 : Cond.code am_m199.1.2.1 am_m199.1.2.2 am_m199.2.1.1 am_m199.2.1.2.1 ∈ am_ts := am_ts_in (i := 1831) rfl rfl
set_option maxRecDepth 1000000 in
theorem am_cw200 : Cond.code am_m200.1.2.1 am_m200.1.2.2 am_m200.2.1.1 am_m200.2.1.2.1 ∈ am_ts := am_ts_in (i := 1835) rfl rfl
set_option maxRecDepth 1000000 in
theorem am_cw201 : Cond.code am_m201.1.2.1 am_m201.1.2.2 am_m201.2.1.1 am_m201.2.1.2.1 ∈ am_ts := am_ts_in (i := 1839) rfl rfl
set_option maxRecDepth 1000000 in
theorem am_cw202 : Cond.code am_m202.1.2.1 am_m202.1.2.2 am_m202.2.1.1 am_m202.2.1.2.1 ∈ am_ts := am_ts_in (i := 1842) rfl rfl
set_option maxRecDepth 1000000 in
theorem am_cw203 : Cond.code am_m203.1.2.1 am_m203.1.2.2 am_m203.2.1.1 am_m203.2.1.2.1 ∈ am_ts := am_ts_in (i := 1846) rfl rfl
set_option maxRecDepth 1000000 in
theorem am_cw204 : Cond.code am_m204.1.2.1 am_m204.1.2.2 am_m204.2.1.1 am_m204.2.1.2.1 ∈ am_ts := am_ts_in (i := 1850) rfl rfl
set_option maxRecDepth 1000000 in
theorem am_cw205 : Cond.code am_m205.1.2.1 am_m205.1.2.2 am_m205.2.1.1 am_m205.2.1.2.1 ∈ am_ts := am_ts_in (i := 1854) rfl rfl
set_option maxRecDepth 1000000 in
theorem am_cw206 : Cond.code am_m206.1.2.1 am_m206.1.2.2 am_m206.2.1.1 am_m206.2.1.2.1 ∈ am_ts := am_ts_in (i := 1858) rfl rfl
set_option maxRecDepth 1000000 in
theorem am_cw207 : Cond.code am_m207.1.2.1 am_m207.1.2.2 am_m207.2.1.1 am_m207.2.1.2.1 ∈ am_ts := am_ts_in (i := 1862) rfl rfl
set_option maxRecDepth 1000000 in
theorem am_cw208 : Cond.code am_m208.1.2.1 am_m208.1.2.2 am_m208.2.1.1 am_m208.2.1.2.1 ∈ am_ts := am_ts_in (i := 1866) rfl rfl
set_option maxRecDepth 1000000 in
theorem am_cw209 : Cond.code am_m209.1.2.1 am_m209.1.2.2 am_m209.2.1.1 am_m209.2.1.2.1 ∈ am_ts := am_ts_in (i := 1870) rfl rfl
set_option maxRecDepth 1000000 in
theorem am_cw210 : Cond.code am_m210.1.2.1 am_m210.1.2.2 am_m210.2.1.1 am_m210.2.1.2.1 ∈ am_ts := am_ts_in (i := 1874) rfl rfl
set_option maxRecDepth 1000000 in
theorem am_cw211 : Cond.code am_m211.1.2.1 am_m211.1.2.2 am_m211.2.1.1 am_m211.2.1.2.1 ∈ am_ts := am_ts_in (i := 1878) rfl rfl
set_option maxRecDepth 1000000 in
theorem am_cw212 : Cond.code am_m212.1.2.1 am_m212.1.2.2 am_m212.2.1.1 am_m212.2.1.2.1 ∈ am_ts := am_ts_in (i := 1882) rfl rfl
set_option maxRecDepth 1000000 in
theorem am_cw213 : Cond.code am_m213.1.2.1 am_m213.1.2.2 am_m213.2.1.1 am_m213.2.1.2.1 ∈ am_ts := am_ts_in (i := 1886) rfl rfl
set_option maxRecDepth 1000000 in
theorem am_cw214 : Cond.code am_m214.1.2.1 am_m214.1.2.2 am_m214.2.1.1 am_m214.2.1.2.1 ∈ am_ts := am_ts_in (i := 1890) rfl rfl
set_option maxRecDepth 1000000 in
theorem am_cw215 : Cond.code am_m215.1.2.1 am_m215.1.2.2 am_m215.2.1.1 am_m215.2.1.2.1 ∈ am_ts := am_ts_in (i := 1894) rfl rfl
set_option maxRecDepth 1000000 in
theorem am_cw216 : Cond.code am_m216.1.2.1 am_m216.1.2.2 am_m216.2.1.1 am_m216.2.1.2.1 ∈ am_ts := am_ts_in (i := 1898) rfl rfl
set_option maxRecDepth 1000000 in
theorem am_cw217 : Cond.code am_m217.1.2.1 am_m217.1.2.2 am_m217.2.1.1 am_m217.2.1.2.1 ∈ am_ts := am_ts_in (i := 1902) rfl rfl
set_option maxRecDepth 1000000 in
theorem am_cw218 : Cond.code am_m218.1.2.1 am_m218.1.2.2 am_m218.2.1.1 am_m218.2.1.2.1 ∈ am_ts := am_ts_in (i := 1906) rfl rfl
set_option maxRecDepth 1000000 in
theorem am_cw219 : Cond.code am_m219.1.2.1 am_m219.1.2.2 am_m219.2.1.1 am_m219.2.1.2.1 ∈ am_ts := am_ts_in (i := 1910) rfl rfl
set_option maxRecDepth 1000000 in
theorem am_cw220 : Cond.code am_m220.1.2.1 am_m220.1.2.2 am_m220.2.1.1 am_m220.2.1.2.1 ∈ am_ts := am_ts_in (i := 1914) rfl rfl
set_option maxRecDepth 1000000 in
theorem am_cw221 : Cond.code am_m221.1.2.1 am_m221.1.2.2 am_m221.2.1.1 am_m221.2.1.2.1 ∈ am_ts := am_ts_in (i := 1918) rfl rfl
set_option maxRecDepth 1000000 in
theorem am_cw222 : Cond.code am_m222.1.2.1 am_m222.1.2.2 am_m222.2.1.1 am_m222.2.1.2.1 ∈ am_ts := am_ts_in (i := 1922) rfl rfl
set_option maxRecDepth 1000000 in
theorem am_cw223 : Cond.code am_m223.1.2.1 am_m223.1.2.2 am_m223.2.1.1 am_m223.2.1.2.1 ∈ am_ts := am_ts_in (i := 1926) rfl rfl
set_option maxRecDepth 1000000 in
theorem am_cw224 : Cond.code am_m224.1.2.1 am_m224.1.2.2 am_m224.2.1.1 am_m224.2.1.2.1 ∈ am_ts := am_ts_in (i := 1930) rfl rfl
set_option maxRecDepth 1000000 in
theorem am_cw225 : Cond.code am_m225.1.2.1 am_m225.1.2.2 am_m225.2.1.1 am_m225.2.1.2.1 ∈ am_ts := am_ts_in (i := 1934) rfl rfl
set_option maxRecDepth 1000000 in
theorem am_cw226 : Cond.code am_m226.1.2.1 am_m226.1.2.2 am_m226.2.1.1 am_m226.2.1.2.1 ∈ am_ts := am_ts_in (i := 1938) rfl rfl
set_option maxRecDepth 1000000 in
theorem am_cw227 : Cond.code am_m227.1.2.1 am_m227.1.2.2 am_m227.2.1.1 am_m227.2.1.2.1 ∈ am_ts := am_ts_in (i := 1941) rfl rfl
set_option maxRecDepth 1000000 in
theorem am_cw228 : Cond.code am_m228.1.2.1 am_m228.1.2.2 am_m228.2.1.1 am_m228.2.1.2.1 ∈ am_ts := am_ts_in (i := 1945) rfl rfl
set_option maxRecDepth 1000000 in
theorem am_cw229 : Cond.code am_m229.1.2.1 am_m229.1.2.2 am_m229.2.1.1 am_m229.2.1.2.1 ∈ am_ts := am_ts_in (i := 1949) rfl rfl
set_option maxRecDepth 1000000 in
theorem am_cw230 : Cond.code am_m230.1.2.1 am_m230.1.2.2 am_m230.2.1.1 am_m230.2.1.2.1 ∈ am_ts := am_ts_in (i := 1953) rfl rfl
set_option maxRecDepth 1000000 in
theorem am_cw231 : Cond.code am_m231.1.2.1 am_m231.1.2.2 am_m231.2.1.1 am_m231.2.1.2.1 ∈ am_ts := am_ts_in (i := 1957) rfl rfl
set_option maxRecDepth 1000000 in
theorem am_cw232 : Cond.code am_m232.1.2.1 am_m232.1.2.2 am_m232.2.1.1 am_m232.2.1.2.1 ∈ am_ts := am_ts_in (i := 1961) rfl rfl
set_option maxRecDepth 1000000 in
theorem am_cw233 : Cond.code am_m233.1.2.1 am_m233.1.2.2 am_m233.2.1.1 am_m233.2.1.2.1 ∈ am_ts := am_ts_in (i := 1965) rfl rfl
set_option maxRecDepth 1000000 in
theorem am_cw234 : Cond.code am_m234.1.2.1 am_m234.1.2.2 am_m234.2.1.1 am_m234.2.1.2.1 ∈ am_ts := am_ts_in (i := 1971) rfl rfl
set_option maxRecDepth 1000000 in
theorem am_cw235 : Cond.code am_m235.1.2.1 am_m235.1.2.2 am_m235.2.1.1 am_m235.2.1.2.1 ∈ am_ts := am_ts_in (i := 1974) rfl rfl
set_option maxRecDepth 1000000 in
theorem am_cw236 : Cond.code am_m236.1.2.1 am_m236.1.2.2 am_m236.2.1.1 am_m236.2.1.2.1 ∈ am_ts := am_ts_in (i := 1978) rfl rfl
set_option maxRecDepth 1000000 in
theorem am_cw237 : Cond.code am_m237.1.2.1 am_m237.1.2.2 am_m237.2.1.1 am_m237.2.1.2.1 ∈ am_ts := am_ts_in (i := 1982) rfl rfl
set_option maxRecDepth 1000000 in
theorem am_cw238 : Cond.code am_m238.1.2.1 am_m238.1.2.2 am_m238.2.1.1 am_m238.2.1.2.1 ∈ am_ts := am_ts_in (i := 1986) rfl rfl
set_option maxRecDepth 1000000 in
theorem am_cw239 : Cond.code am_m239.1.2.1 am_m239.1.2.2 am_m239.2.1.1 am_m239.2.1.2.1 ∈ am_ts := am_ts_in (i := 1990) rfl rfl
set_option maxRecDepth 1000000 in
theorem am_cw240 : Cond.code am_m240.1.2.1 am_m240.1.2.2 am_m240.2.1.1 am_m240.2.1.2.1 ∈ am_ts := am_ts_in (i := 1994) rfl rfl
set_option maxRecDepth 1000000 in
theorem am_cw241 : Cond.code am_m241.1.2.1 am_m241.1.2.2 am_m241.2.1.1 am_m241.2.1.2.1 ∈ am_ts := am_ts_in (i := 1998) rfl rfl
set_option maxRecDepth 1000000 in
theorem am_cw242 : Cond.code am_m242.1.2.1 am_m242.1.2.2 am_m242.2.1.1 am_m242.2.1.2.1 ∈ am_ts := am_ts_in (i := 2002) rfl rfl
set_option maxRecDepth 1000000 in
theorem am_cw243 : Cond.code am_m243.1.2.1 am_m243.1.2.2 am_m243.2.1.1 am_m243.2.1.2.1 ∈ am_ts := am_ts_in (i := 2006) rfl rfl
set_option maxRecDepth 1000000 in
theorem am_cw244 : Cond.code am_m244.1.2.1 am_m244.1.2.2 am_m244.2.1.1 am_m244.2.1.2.1 ∈ am_ts := am_ts_in (i := 2010) rfl rfl
set_option maxRecDepth 1000000 in
theorem am_cw245 : Cond.code am_m245.1.2.1 am_m245.1.2.2 am_m245.2.1.1 am_m245.2.1.2.1 ∈ am_ts := am_ts_in (i := 2014) rfl rfl
set_option maxRecDepth 1000000 in
theorem am_cw246 : Cond.code am_m246.1.2.1 am_m246.1.2.2 am_m246.2.1.1 am_m246.2.1.2.1 ∈ am_ts := am_ts_in (i := 2018) rfl rfl
set_option maxRecDepth 1000000 in
theorem am_cw247 : Cond.code am_m247.1.2.1 am_m247.1.2.2 am_m247.2.1.1 am_m247.2.1.2.1 ∈ am_ts := am_ts_in (i := 2022) rfl rfl
set_option maxRecDepth 1000000 in
theorem am_cw248 : Cond.code am_m248.1.2.1 am_m248.1.2.2 am_m248.2.1.1 am_m248.2.1.2.1 ∈ am_ts := am_ts_in (i := 2026) rfl rfl
set_option maxRecDepth 1000000 in
theorem am_cw249 : Cond.code am_m249.1.2.1 am_m249.1.2.2 am_m249.2.1.1 am_m249.2.1.2.1 ∈ am_ts := am_ts_in (i := 2030) rfl rfl
set_option maxRecDepth 1000000 in
theorem am_cw250 : Cond.code am_m250.1.2.1 am_m250.1.2.2 am_m250.2.1.1 am_m250.2.1.2.1 ∈ am_ts := am_ts_in (i := 2034) rfl rfl
set_option maxRecDepth 1000000 in
theorem am_cw251 : Cond.code am_m251.1.2.1 am_m251.1.2.2 am_m251.2.1.1 am_m251.2.1.2.1 ∈ am_ts := am_ts_in (i := 2038) rfl rfl
set_option maxRecDepth 1000000 in
theorem am_cw252 : Cond.code am_m252.1.2.1 am_m252.1.2.2 am_m252.2.1.1 am_m252.2.1.2.1 ∈ am_ts := am_ts_in (i := 2042) rfl rfl
set_option maxRecDepth 1000000 in
theorem am_cw253 : Cond.code am_m253.1.2.1 am_m253.1.2.2 am_m253.2.1.1 am_m253.2.1.2.1 ∈ am_ts := am_ts_in (i := 2046) rfl rfl
theorem am_cw_all : ∀ M ∈ am_prog, Cond.code M.1.2.1 M.1.2.2 M.2.1.1 M.2.1.2.1 ∈ am_ts := List.forall_mem_cons.mpr ⟨am_cw0, List.forall_mem_cons.mpr ⟨am_cw1, List.forall_mem_cons.mpr ⟨am_cw2, List.forall_mem_cons.mpr ⟨am_cw3, List.forall_mem_cons.mpr ⟨am_cw4, List.forall_mem_cons.mpr ⟨am_cw5, List.forall_mem_cons.mpr ⟨am_cw6, List.forall_mem_cons.mpr ⟨am_cw7, List.forall_mem_cons.mpr ⟨am_cw8, List.forall_mem_cons.mpr ⟨am_cw9, List.forall_mem_cons.mpr ⟨am_cw10, List.forall_mem_cons.mpr ⟨am_cw11, List.forall_mem_cons.mpr ⟨am_cw12, List.forall_mem_cons.mpr ⟨am_cw13, List.forall_mem_cons.mpr ⟨am_cw14, List.forall_mem_cons.mpr ⟨am_cw15, List.forall_mem_cons.mpr ⟨am_cw16, List.forall_mem_cons.mpr ⟨am_cw17, List.forall_mem_cons.mpr ⟨am_cw18, List.forall_mem_cons.mpr ⟨am_cw19, List.forall_mem_cons.mpr ⟨am_cw20, List.forall_mem_cons.mpr ⟨am_cw21, List.forall_mem_cons.mpr ⟨am_cw22, List.forall_mem_cons.mpr ⟨am_cw23, List.forall_mem_cons.mpr ⟨am_cw24, List.forall_mem_cons.mpr ⟨am_cw25, List.forall_mem_cons.mpr ⟨am_cw26, List.forall_mem_cons.mpr ⟨am_cw27, List.forall_mem_cons.mpr ⟨am_cw28, List.forall_mem_cons.mpr ⟨am_cw29, List.forall_mem_cons.mpr ⟨am_cw30, List.forall_mem_cons.mpr ⟨am_cw31, List.forall_mem_cons.mpr ⟨am_cw32, List.forall_mem_cons.mpr ⟨am_cw33, List.forall_mem_cons.mpr ⟨am_cw34, List.forall_mem_cons.mpr ⟨am_cw35, List.forall_mem_cons.mpr ⟨am_cw36, List.forall_mem_cons.mpr ⟨am_cw37, List.forall_mem_cons.mpr ⟨am_cw38, List.forall_mem_cons.mpr ⟨am_cw39, List.forall_mem_cons.mpr ⟨am_cw40, List.forall_mem_cons.mpr ⟨am_cw41, List.forall_mem_cons.mpr ⟨am_cw42, List.forall_mem_cons.mpr ⟨am_cw43, List.forall_mem_cons.mpr ⟨am_cw44, List.forall_mem_cons.mpr ⟨am_cw45, List.forall_mem_cons.mpr ⟨am_cw46, List.forall_mem_cons.mpr ⟨am_cw47, List.forall_mem_cons.mpr ⟨am_cw48, List.forall_mem_cons.mpr ⟨am_cw49, List.forall_mem_cons.mpr ⟨am_cw50, List.forall_mem_cons.mpr ⟨am_cw51, List.forall_mem_cons.mpr ⟨am_cw52, List.forall_mem_cons.mpr ⟨am_cw53, List.forall_mem_cons.mpr ⟨am_cw54, List.forall_mem_cons.mpr ⟨am_cw55, List.forall_mem_cons.mpr ⟨am_cw56, List.forall_mem_cons.mpr ⟨am_cw57, List.forall_mem_cons.mpr ⟨am_cw58, List.forall_mem_cons.mpr ⟨am_cw59, List.forall_mem_cons.mpr ⟨am_cw60, List.forall_mem_cons.mpr ⟨am_cw61, List.forall_mem_cons.mpr ⟨am_cw62, List.forall_mem_cons.mpr ⟨am_cw63, List.forall_mem_cons.mpr ⟨am_cw64, List.forall_mem_cons.mpr ⟨am_cw65, List.forall_mem_cons.mpr ⟨am_cw66, List.forall_mem_cons.mpr ⟨am_cw67, List.forall_mem_cons.mpr ⟨am_cw68, List.forall_mem_cons.mpr ⟨am_cw69, List.forall_mem_cons.mpr ⟨am_cw70, List.forall_mem_cons.mpr ⟨am_cw71, List.forall_mem_cons.mpr ⟨am_cw72, List.forall_mem_cons.mpr ⟨am_cw73, List.forall_mem_cons.mpr ⟨am_cw74, List.forall_mem_cons.mpr ⟨am_cw75, List.forall_mem_cons.mpr ⟨am_cw76, List.forall_mem_cons.mpr ⟨am_cw77, List.forall_mem_cons.mpr ⟨am_cw78, List.forall_mem_cons.mpr ⟨am_cw79, List.forall_mem_cons.mpr ⟨am_cw80, List.forall_mem_cons.mpr ⟨am_cw81, List.forall_mem_cons.mpr ⟨am_cw82, List.forall_mem_cons.mpr ⟨am_cw83, List.forall_mem_cons.mpr ⟨am_cw84, List.forall_mem_cons.mpr ⟨am_cw85, List.forall_mem_cons.mpr ⟨am_cw86, List.forall_mem_cons.mpr ⟨am_cw87, List.forall_mem_cons.mpr ⟨am_cw88, List.forall_mem_cons.mpr ⟨am_cw89, List.forall_mem_cons.mpr ⟨am_cw90, List.forall_mem_cons.mpr ⟨am_cw91, List.forall_mem_cons.mpr ⟨am_cw92, List.forall_mem_cons.mpr ⟨am_cw93, List.forall_mem_cons.mpr ⟨am_cw94, List.forall_mem_cons.mpr ⟨am_cw95, List.forall_mem_cons.mpr ⟨am_cw96, List.forall_mem_cons.mpr ⟨am_cw97, List.forall_mem_cons.mpr ⟨am_cw98, List.forall_mem_cons.mpr ⟨am_cw99, List.forall_mem_cons.mpr ⟨am_cw100, List.forall_mem_cons.mpr ⟨am_cw101, List.forall_mem_cons.mpr ⟨am_cw102, List.forall_mem_cons.mpr ⟨am_cw103, List.forall_mem_cons.mpr ⟨am_cw104, List.forall_mem_cons.mpr ⟨am_cw105, List.forall_mem_cons.mpr ⟨am_cw106, List.forall_mem_cons.mpr ⟨am_cw107, List.forall_mem_cons.mpr ⟨am_cw108, List.forall_mem_cons.mpr ⟨am_cw109, List.forall_mem_cons.mpr ⟨am_cw110, List.forall_mem_cons.mpr ⟨am_cw111, List.forall_mem_cons.mpr ⟨am_cw112, List.forall_mem_cons.mpr ⟨am_cw113, List.forall_mem_cons.mpr ⟨am_cw114, List.forall_mem_cons.mpr ⟨am_cw115, List.forall_mem_cons.mpr ⟨am_cw116, List.forall_mem_cons.mpr ⟨am_cw117, List.forall_mem_cons.mpr ⟨am_cw118, List.forall_mem_cons.mpr ⟨am_cw119, List.forall_mem_cons.mpr ⟨am_cw120, List.forall_mem_cons.mpr ⟨am_cw121, List.forall_mem_cons.mpr ⟨am_cw122, List.forall_mem_cons.mpr ⟨am_cw123, List.forall_mem_cons.mpr ⟨am_cw124, List.forall_mem_cons.mpr ⟨am_cw125, List.forall_mem_cons.mpr ⟨am_cw126, List.forall_mem_cons.mpr ⟨am_cw127, List.forall_mem_cons.mpr ⟨am_cw128, List.forall_mem_cons.mpr ⟨am_cw129, List.forall_mem_cons.mpr ⟨am_cw130, List.forall_mem_cons.mpr ⟨am_cw131, List.forall_mem_cons.mpr ⟨am_cw132, List.forall_mem_cons.mpr ⟨am_cw133, List.forall_mem_cons.mpr ⟨am_cw134, List.forall_mem_cons.mpr ⟨am_cw135, List.forall_mem_cons.mpr ⟨am_cw136, List.forall_mem_cons.mpr ⟨am_cw137, List.forall_mem_cons.mpr ⟨am_cw138, List.forall_mem_cons.mpr ⟨am_cw139, List.forall_mem_cons.mpr ⟨am_cw140, List.forall_mem_cons.mpr ⟨am_cw141, List.forall_mem_cons.mpr ⟨am_cw142, List.forall_mem_cons.mpr ⟨am_cw143, List.forall_mem_cons.mpr ⟨am_cw144, List.forall_mem_cons.mpr ⟨am_cw145, List.forall_mem_cons.mpr ⟨am_cw146, List.forall_mem_cons.mpr ⟨am_cw147, List.forall_mem_cons.mpr ⟨am_cw148, List.forall_mem_cons.mpr ⟨am_cw149, List.forall_mem_cons.mpr ⟨am_cw150, List.forall_mem_cons.mpr ⟨am_cw151, List.forall_mem_cons.mpr ⟨am_cw152, List.forall_mem_cons.mpr ⟨am_cw153, List.forall_mem_cons.mpr ⟨am_cw154, List.forall_mem_cons.mpr ⟨am_cw155, List.forall_mem_cons.mpr ⟨am_cw156, List.forall_mem_cons.mpr ⟨am_cw157, List.forall_mem_cons.mpr ⟨am_cw158, List.forall_mem_cons.mpr ⟨am_cw159, List.forall_mem_cons.mpr ⟨am_cw160, List.forall_mem_cons.mpr ⟨am_cw161, List.forall_mem_cons.mpr ⟨am_cw162, List.forall_mem_cons.mpr ⟨am_cw163, List.forall_mem_cons.mpr ⟨am_cw164, List.forall_mem_cons.mpr ⟨am_cw165, List.forall_mem_cons.mpr ⟨am_cw166, List.forall_mem_cons.mpr ⟨am_cw167, List.forall_mem_cons.mpr ⟨am_cw168, List.forall_mem_cons.mpr ⟨am_cw169, List.forall_mem_cons.mpr ⟨am_cw170, List.forall_mem_cons.mpr ⟨am_cw171, List.forall_mem_cons.mpr ⟨am_cw172, List.forall_mem_cons.mpr ⟨am_cw173, List.forall_mem_cons.mpr ⟨am_cw174, List.forall_mem_cons.mpr ⟨am_cw175, List.forall_mem_cons.mpr ⟨am_cw176, List.forall_mem_cons.mpr ⟨am_cw177, List.forall_mem_cons.mpr ⟨am_cw178, List.forall_mem_cons.mpr ⟨am_cw179, List.forall_mem_cons.mpr ⟨am_cw180, List.forall_mem_cons.mpr ⟨am_cw181, List.forall_mem_cons.mpr ⟨am_cw182, List.forall_mem_cons.mpr ⟨am_cw183, List.forall_mem_cons.mpr ⟨am_cw184, List.forall_mem_cons.mpr ⟨am_cw185, List.forall_mem_cons.mpr ⟨am_cw186, List.forall_mem_cons.mpr ⟨am_cw187, List.forall_mem_cons.mpr ⟨am_cw188, List.forall_mem_cons.mpr ⟨am_cw189, List.forall_mem_cons.mpr ⟨am_cw190, List.forall_mem_cons.mpr ⟨am_cw191, List.forall_mem_cons.mpr ⟨am_cw192, List.forall_mem_cons.mpr ⟨am_cw193, List.forall_mem_cons.mpr ⟨am_cw194, List.forall_mem_cons.mpr ⟨am_cw195, List.forall_mem_cons.mpr ⟨am_cw196, List.forall_mem_cons.mpr ⟨am_cw197, List.forall_mem_cons.mpr ⟨am_cw198, List.forall_mem_cons.mpr ⟨am_cw199, List.forall_mem_cons.mpr ⟨am_cw200, List.forall_mem_cons.mpr ⟨am_cw201, List.forall_mem_cons.mpr ⟨am_cw202, List.forall_mem_cons.mpr ⟨am_cw203, List.forall_mem_cons.mpr ⟨am_cw204, List.forall_mem_cons.mpr ⟨am_cw205, List.forall_mem_cons.mpr ⟨am_cw206, List.forall_mem_cons.mpr ⟨am_cw207, List.forall_mem_cons.mpr ⟨am_cw208, List.forall_mem_cons.mpr ⟨am_cw209, List.forall_mem_cons.mpr ⟨am_cw210, List.forall_mem_cons.mpr ⟨am_cw211, List.forall_mem_cons.mpr ⟨am_cw212, List.forall_mem_cons.mpr ⟨am_cw213, List.forall_mem_cons.mpr ⟨am_cw214, List.forall_mem_cons.mpr ⟨am_cw215, List.forall_mem_cons.mpr ⟨am_cw216, List.forall_mem_cons.mpr ⟨am_cw217, List.forall_mem_cons.mpr ⟨am_cw218, List.forall_mem_cons.mpr ⟨am_cw219, List.forall_mem_cons.mpr ⟨am_cw220, List.forall_mem_cons.mpr ⟨am_cw221, List.forall_mem_cons.mpr ⟨am_cw222, List.forall_mem_cons.mpr ⟨am_cw223, List.forall_mem_cons.mpr ⟨am_cw224, List.forall_mem_cons.mpr ⟨am_cw225, List.forall_mem_cons.mpr ⟨am_cw226, List.forall_mem_cons.mpr ⟨am_cw227, List.forall_mem_cons.mpr ⟨am_cw228, List.forall_mem_cons.mpr ⟨am_cw229, List.forall_mem_cons.mpr ⟨am_cw230, List.forall_mem_cons.mpr ⟨am_cw231, List.forall_mem_cons.mpr ⟨am_cw232, List.forall_mem_cons.mpr ⟨am_cw233, List.forall_mem_cons.mpr ⟨am_cw234, List.forall_mem_cons.mpr ⟨am_cw235, List.forall_mem_cons.mpr ⟨am_cw236, List.forall_mem_cons.mpr ⟨am_cw237, List.forall_mem_cons.mpr ⟨am_cw238, List.forall_mem_cons.mpr ⟨am_cw239, List.forall_mem_cons.mpr ⟨am_cw240, List.forall_mem_cons.mpr ⟨am_cw241, List.forall_mem_cons.mpr ⟨am_cw242, List.forall_mem_cons.mpr ⟨am_cw243, List.forall_mem_cons.mpr ⟨am_cw244, List.forall_mem_cons.mpr ⟨am_cw245, List.forall_mem_cons.mpr ⟨am_cw246, List.forall_mem_cons.mpr ⟨am_cw247, List.forall_mem_cons.mpr ⟨am_cw248, List.forall_mem_cons.mpr ⟨am_cw249, List.forall_mem_cons.mpr ⟨am_cw250, List.forall_mem_cons.mpr ⟨am_cw251, List.forall_mem_cons.mpr ⟨am_cw252, List.forall_mem_cons.mpr ⟨am_cw253, fun _ h => absurd h List.not_mem_nil⟩⟩⟩⟩⟩⟩⟩⟩⟩⟩⟩⟩⟩⟩⟩⟩⟩⟩⟩⟩⟩⟩⟩⟩⟩⟩⟩⟩⟩⟩⟩⟩⟩⟩⟩⟩⟩⟩⟩⟩⟩⟩⟩⟩⟩⟩⟩⟩⟩⟩⟩⟩⟩⟩⟩⟩⟩⟩⟩⟩⟩⟩⟩⟩⟩⟩⟩⟩⟩⟩⟩⟩⟩⟩⟩⟩⟩⟩⟩⟩⟩⟩⟩⟩⟩⟩⟩⟩⟩⟩⟩⟩⟩⟩⟩⟩⟩⟩⟩⟩⟩⟩⟩⟩⟩⟩⟩⟩⟩⟩⟩⟩⟩⟩⟩⟩⟩⟩⟩⟩⟩⟩⟩⟩⟩⟩⟩⟩⟩⟩⟩⟩⟩⟩⟩⟩⟩⟩⟩⟩⟩⟩⟩⟩⟩⟩⟩⟩⟩⟩⟩⟩⟩⟩⟩⟩⟩⟩⟩⟩⟩⟩⟩⟩⟩⟩⟩⟩⟩⟩⟩⟩⟩⟩⟩⟩⟩⟩⟩⟩⟩⟩⟩⟩⟩⟩⟩⟩⟩⟩⟩⟩⟩⟩⟩⟩⟩⟩⟩⟩⟩⟩⟩⟩⟩⟩⟩⟩⟩⟩⟩⟩⟩⟩⟩⟩⟩⟩⟩⟩⟩⟩⟩⟩⟩⟩⟩⟩⟩⟩⟩⟩⟩⟩⟩⟩⟩⟩⟩⟩⟩⟩⟩⟩⟩⟩⟩⟩⟩⟩⟩⟩⟩⟩
set_option maxRecDepth 1000000 in
theorem am_cwL : Cond.codeWith am_mL.1.2.1 am_mL.1.2.2 am_mL.2.1.1 am_mL.2.1.2.1 am_hh ∈ am_ts := am_ts_in (i := 1258) rfl rfl
set_option maxRecDepth 1000000 in
theorem am_chkMs : (List.range 400).all am_chkM = true := by decide +kernel
theorem am_allM {a : Nat} {M : am_M} (hM : am_prog[a]? = some M) : am_facts a M := by
  have hlt : a < am_prog.length := (List.getElem?_eq_some_iff.mp hM).1
  have hl : am_prog.length ≤ 400 := by decide +kernel
  exact am_chkM_ok (List.all_eq_true.mp am_chkMs a (List.mem_range.mpr (Nat.lt_of_lt_of_le hlt hl))) hM (am_cw_all M (List.mem_of_getElem? hM))
/-- what is checked of an instruction -/
def am_chkI (M : am_M) (i : am_I) : Bool := decide (decode M.1.2.2 i.1 = .ok (i.2.2.1, i.2.1)) && match i.2.2.1 with
  | .aload _ | .iload _ | .lload _ | .istore _ | .lstore _ | .astore _ | .bipush _ => decide (i.2.1 = 2)
  | .iinc _ _ | .sipush _ | .goto _ => decide (i.2.1 = 3)
  | .ifCond _ off | .if_icmp _ off => decide (i.2.1 = 3) && decide (0 ≤ (i.1 : Int) + off)
  | .tableswitch _ _ _ _ => true
  | .ldc k => decide (i.2.1 = 2) && (match i.2.2.2.1.2.1 with
    | 0 => am_w i.2.2.2.1.2.2 (Cond.constant M.1.2.1.cls k (Int32.ofInt i.2.2.2.2))
    | _ => match lw_tbl[i.2.2.2.1.2.2]? with
      | some (.stringRef o j tx) => decide (o = M.1.2.1.cls) && decide (j = k) && decide (M.1.2.1.cls = "AirBed$Reader")
      | _ => false)
  | .ldc2_w k => decide (i.2.1 = 3) && am_w i.2.2.2.1.2.2 (Cond.constantLong M.1.2.1.cls k (Int64.ofInt i.2.2.2.2))
  | .getfield idx => decide (i.2.1 = 3) && (match am_cls[i.2.2.2.1.1]? with
    | some r => decide (i.2.2.2.1.2.1 < r.2.2) && am_wF i.2.2.2.1.2.2 M.1.2.1.cls idx (r.2.1 i.2.2.2.1.2.1)
    | none => false)
  | .putfield idx => decide (i.2.1 = 3) && (match am_cls[i.2.2.2.1.1]? with
    | some r => decide (i.2.2.2.1.2.1 < r.2.2) && cond (r.2.1 i.2.2.2.1.2.1).2.2.2
        (am_w i.2.2.2.1.2.2 (Cond.fieldLink M.1.2.1.cls idx (r.2.1 i.2.2.2.1.2.1).1 (r.2.1 i.2.2.2.1.2.1).2.1 (r.2.1 i.2.2.2.1.2.1).2.2.1) && decide (M.1.2.1.name = "<init>") && decide ((r.2.1 i.2.2.2.1.2.1).1 = M.1.2.1.cls))
        (am_wF i.2.2.2.1.2.2 M.1.2.1.cls idx (r.2.1 i.2.2.2.1.2.1))
    | none => false)
  | .newarray t => decide (i.2.1 = 2) && am_w i.2.2.2.1.2.2 (Cond.arrayClass (Op.newarray.typeOf t)) && decide (Op.newarray.typeOf t = .int ∨ Op.newarray.typeOf t = .boolean ∨ Op.newarray.typeOf t = .long)
  | .anewarray idx => decide (i.2.1 = 3) && (match am_cls[i.2.2.2.1.1]? with
    | some r => am_w i.2.2.2.1.2.1 (Cond.classLink M.1.2.1.cls idx r.1) && decide (lw_tbl[i.2.2.2.1.2.2]? = some (Cond.arrayOver (.object r.1)))
    | none => false)
  | .new idx => decide (i.2.1 = 3) && (match am_cls[i.2.2.2.1.1]? with
    | some r => am_w i.2.2.2.1.2.1 (Cond.classLink M.1.2.1.cls idx r.1)
    | none => false)
  | .invokespecial idx => decide (i.2.1 = 3) && (match i.2.2.2.1.2.2 with
    | 0 => am_w i.2.2.2.1.2.1 (Cond.methodLink M.1.2.1.cls idx Lib.objectInit)
    | _ => match am_prog[i.2.2.2.1.1]? with
      | none => true
      | some M' => decide (M'.1.2.1.name = "<init>" ∧ M'.2.1.2.1 = none) && am_wM i.2.2.2.1.2.1 M.1.2.1.cls idx M'.1.2.1 && (match am_hint[i.2.2.2.1.1]? with
        | some h => !h.2.2.2.2
        | none => false))
  | .invokevirtual idx => decide (i.2.1 = 3) && (match i.2.2.2.1.2.2 with
    | 0 => am_w i.2.2.2.1.2.1 (Cond.methodLink M.1.2.1.cls idx am_charAt)
    | _ => match am_prog[i.2.2.2.1.1]? with
      | none => true
      | some M' => decide (¬ M'.1.2.1.name = "<init>") && am_wM i.2.2.2.1.2.1 M.1.2.1.cls idx M'.1.2.1 && (match am_hint[i.2.2.2.1.1]? with
        | some h => !h.2.2.2.2
        | none => false))
  | .invokestatic idx => decide (i.2.1 = 3) && (match i.2.2.2.1.2.2 with
    | 0 => am_w i.2.2.2.1.2.1 (Cond.methodLink M.1.2.1.cls idx am_mL.1.2.1)
    | 1 => am_w i.2.2.2.1.2.1 (Cond.methodLink M.1.2.1.cls idx Lib.Math.max.name)
    | 2 => am_w i.2.2.2.1.2.1 (Cond.methodLink M.1.2.1.cls idx Lib.Math.min.name)
    | _ => match am_prog[i.2.2.2.1.1]? with
      | none => true
      | some M' => (match lw_tbl[i.2.2.2.1.2.1]? with
          | some (.methodLink o j r) => decide (o = M.1.2.1.cls) && decide (j = idx) && decide (r = M'.1.2.1) && decide (M'.1.2.1.cls = M.1.2.1.cls) && goodWord (.methodLink o j r)
          | some (.methodLinkNest o j r host) => decide (o = M.1.2.1.cls) && decide (j = idx) && decide (r = M'.1.2.1)
          | _ => false) && (match am_hint[i.2.2.2.1.1]? with
        | some h => h.2.2.2.2
        | none => false))
  | _ => decide (i.2.1 = 1)
theorem am_oI_ok : Cond.instanceMethod Lib.objectInit ∈ am_ts ∧ Cond.code Lib.objectInit ⟨#[0xb1]⟩ 1 none ∈ am_ts := ⟨am_w_ok (i := am_oI.1) (by decide +kernel), am_w_ok (i := am_oI.2) (by decide +kernel)⟩
theorem am_oM_ok : Cond.initialized "java/lang/Math" ∈ am_ts ∧ Cond.static Lib.Math.max.name ∈ am_ts ∧ Cond.code Lib.Math.max.name Lib.Math.max.code 2 (some .int) ∈ am_ts ∧ Cond.static Lib.Math.min.name ∈ am_ts ∧ Cond.code Lib.Math.min.name Lib.Math.min.code 2 (some .int) ∈ am_ts :=
  ⟨am_w_ok (i := am_oM.1) (by decide +kernel), am_w_ok (i := am_oM.2.1) (by decide +kernel), am_w_ok (i := am_oM.2.2.1) (by decide +kernel), am_w_ok (i := am_oM.2.2.2.1) (by decide +kernel), am_w_ok (i := am_oM.2.2.2.2) (by decide +kernel)⟩
theorem am_oL_ok (scr : Option (Nat × (Nat → Int32))) (lk : List Value → List am_k → am_H → Option am_O) : am_okL (am_P1 scr lk) am_hh := by
  have h1 : Cond.static am_mL.1.2.1 ∈ am_ts := am_w_ok (i := am_oL.1) (by decide +kernel)
  have h2 : Cond.initialized am_mL.1.2.1.cls ∈ am_ts := am_w_ok (i := am_oL.2.1) (by decide +kernel)
  have h3 : am_mL.1.2.1.cls ≠ "java/lang/invoke/MethodHandle" ∧ am_mL.1.2.1.cls ≠ "java/lang/invoke/VarHandle" ∧ (parseMethodDescriptor am_mL.1.2.1.desc).map (fun d => d.parameters.length) = some am_mL.2.1.2.2 := by decide +kernel
  exact ⟨h1, h2, am_cwL, h3⟩
