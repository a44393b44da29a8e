/-! ===== CONTRACTS OF THE MODEL (wip/s/mkcon2.py) ===== -/
def ac_c52 : List (Option ab_K) := [some ([([(0, ab_rf [164])], [], [])], 751, []), none, none, none, none, some ([([(0, ab_rf [164]), (1, ab_i 0 24)], [], [((165, 2), ab_i 0 0)])], 482, [(11, 24, 1, (0, 1))]), none, none, none, none, none, none, none, none, none, some ([([(0, ab_rf [164]), (1, ab_i 1 24)], [], [((165, 2), ab_i 0 0)])], 483, [(11, 24, 1, (0, 1))]), some ([([(0, ab_rf [164]), (1, ab_i 0 24)], [], [((165, 2), ab_i 0 0)])], 472, []), none, none, none, none, some ([([(0, ab_rf [164]), (1, ab_i (-1) 23)], [], [((165, 2), ab_i 0 0)])], 179, [(12, 1, (-1), (0, 1))]), none, none, none, none, none, none, some ([([(0, ab_rf [164]), (1, ab_i 0 23)], [], [((165, 2), ab_i 0 0)])], 172, [(12, 1, (-1), (0, 1))]), none,
  none, none, none, none, none, none, none, none, none, none, none, none, none, none, none, some ([([(0, ab_rf [164]), (1, ab_i 0 23)], [ab_n (ab_i 0 23), (ab_rf [199], 3, (165, 76), 0)], [((165, 2), ab_i 0 0)])], 171, [(12, 1, (-1), (0, 1))]), none, some ([([(0, ab_rf [164]), (1, ab_i 0 23)], [], [((165, 2), ab_i 0 0)])], 169, [(12, 1, (-1), (0, 1))]), some ([([(0, ab_rf [164]), (1, ab_i (-1) 22)], [], [((165, 2), ab_i 0 0)])], 180, [(12, 1, (-1), (0, 1))]), some ([([(0, ab_rf [164]), (1, ab_i (-1) (-1))], [], [((165, 2), ab_i 0 0)])], 168, []), none, none, none, none, none, none, none, none, none, some ([([(0, ab_rf [164]), (1, ab_top), (2, ab_top), (3, ab_i 0 7)], [], [((165, 2), ab_i 0 0), ((165, 57), ab_i 0 0)])], 25, [(19, 7, 1, (0, 3))]),
  none, none, none, none, none, none, none, none, none, none, none, none, none, none, some ([([(0, ab_rf [164]), (1, ab_top), (2, ab_top), (3, ab_i 0 6)], [(ab_top, 1, (0, 1), 0)], [((165, 2), ab_i 0 0), ((165, 57), ab_i 0 0), ((165, 62), ab_i 0 6)])], 11, [(19, 7, 1, (0, 3))]), some ([([(0, ab_rf [164]), (1, ab_top), (2, ab_top), (3, ab_i 0 6)], [ab_n ab_top, (ab_top, 1, (0, 1), 0)], [((165, 2), ab_i 0 0), ((165, 57), ab_i 0 0), ((165, 62), ab_i 0 6)]), ([(0, ab_rf [164]), (1, ab_top), (2, ab_top), (3, ab_i 0 6)], [ab_n (ab_i 0 0), (ab_top, 1, (0, 1), 0)], [((165, 2), ab_i 0 0), ((165, 57), ab_i 0 0), ((165, 62), ab_i 0 6)])], 10, [(19, 7, 1, (0, 3))]), some ([([(0, ab_rf [164]), (1, ab_top), (2, ab_top), (3, ab_i 0 6)], [ab_n ab_top], [((165, 2), ab_i 0 0), ((165, 57), ab_i 0 0), ((165, 62), ab_i 0 6)])], 9, [(19, 7, 1, (0, 3))]), none, some ([([(0, ab_rf [164]), (1, ab_top), (2, ab_top), (3, ab_i 1 7)], [], [((165, 2), ab_i 0 0), ((165, 57), ab_i 0 0), ((165, 62), ab_i 0 6)])], 26, [(19, 7, 1, (0, 3))]), some ([([(0, ab_rf [164]), (1, ab_top), (2, ab_top), (3, ab_i 1 7)], [], [((165, 2), ab_i 0 0), ((165, 57), ab_i 0 0)])], 7, []), none, none, none, none, none, none, none]
set_option maxRecDepth 1000000 in
theorem ac_q52 : ab_chk ab_tab [(164, 3), (164, 58), (164, 63), (199, 0)] ab_s52 [ab_s392, ab_s271] [] ac_c52 [28] am_m244 = true := by decide +kernel
theorem ac_pk : ab_Con ab_tab (fun _ => True) ab_S_packed_x_x := ab_con (M := am_m154) (cl := []) (mdo := []) rfl (fun _ _ _ _ => trivial) (fun _ h => absurd h List.not_mem_nil) ab_q292
section ACP
variable {X : am_H → Prop}
theorem ac_h288 (hX : ac_XF X) : ab_Con ab_tab (ac_JX X) ab_s288 := ac_con1 (M := am_m151) rfl rfl rfl (fun h hI hj _ => am_Ev_mono (ac_token ac_pk hI (ac_JX_parts hj).1 (ac_JX_parts hj).2.1) (fun r ks h' hq => ⟨hq.1, hq.2.2.1, ac_JX_tk hX _ _ hq.2.2.2 hj, hq.2.2.2.1, _, List.mem_singleton.mpr rfl, by rw [hq.2.1]; trivial, fun q h => absurd h List.not_mem_nil, fun q h => absurd h List.not_mem_nil⟩))
theorem ac_h186 (hX : ac_XF X) : ab_Con ab_tab (ac_JX X) ab_s186 := ac_con1 (M := am_m207) rfl rfl rfl (fun h hI hj _ => am_Ev_mono (ac_remember hX hI hj) (fun r ks h' hq => ⟨hq.1, hq.2.2.1, hq.2.2.2.1, hq.2.2.2.2, _, List.mem_singleton.mpr rfl, by rw [hq.2.1]; trivial, fun q h => absurd h List.not_mem_nil, fun q h => absurd h List.not_mem_nil⟩))
theorem ac_h281 (hX : ac_XF X) : ab_Con ab_tab (ac_JX X) ab_s281 := by
  refine ⟨am_m208, rfl, rfl, fun as h hg hI hj hp => ?_⟩
  match as, hg with
  | [v1, v2, v3], hg =>
    obtain ⟨n1, rfl, e1⟩ := hg.1
    obtain ⟨n2, rfl, e2⟩ := hg.2.1
    obtain ⟨i, rfl, i0, i1⟩ := hg.2.2.1
    have e1 := List.mem_singleton.mp e1
    have e2 := List.mem_singleton.mp e2
    subst e1; subst e2
    have i0 : (0 : Int) ≤ i.toInt := i0
    have i1 : i.toInt ≤ 0 := i1
    refine am_Ev_mono (ac_put201 hX hI hj (u := 0) (by omega) (by decide)) (fun r ks h' hq => ?_)
    obtain ⟨q1, q2, q3, q4, q5⟩ := hq
    exact ⟨q1, q3, q4, ab_mdle_Fr (by decide) q5, _, List.mem_singleton.mpr rfl, by rw [q2]; trivial, fun q h => absurd h List.not_mem_nil, fun q h => absurd h List.not_mem_nil⟩
theorem ac_h283 (hX : ac_XF X) : ab_Con ab_tab (ac_JX X) ab_s283 := by
  refine ⟨am_m250, rfl, rfl, fun as h hg hI hj hp => ?_⟩
  match as, hg with
  | [v1, v2, v3], hg =>
    obtain ⟨n1, rfl, e1⟩ := hg.1
    obtain ⟨n2, rfl, e2⟩ := hg.2.1
    obtain ⟨i, rfl, i0, i1⟩ := hg.2.2.1
    have e1 := List.mem_singleton.mp e1
    have e2 := List.mem_singleton.mp e2
    subst e1; subst e2
    have i0 : (0 : Int) ≤ i.toInt := i0
    have i1 : i.toInt ≤ 0 := i1
    refine am_Ev_mono (ac_take201 hX hI hj (u := 0) (by omega) (by decide)) (fun r ks h' hq => ?_)
    obtain ⟨q1, q2, q3, q4, q5⟩ := hq
    exact ⟨q1, q3, q4, q5, _, List.mem_singleton.mpr rfl, by rw [q2]; trivial, fun q h => absurd h List.not_mem_nil, fun q h => absurd h List.not_mem_nil⟩
theorem ac_h237 (hX : ac_XF X) : ab_Con ab_tab (ac_JX X) ab_s237 := by
  refine ⟨am_m235, rfl, rfl, fun as h hg hI hj hp => ?_⟩
  match as, hg with
  | [v1, v2], hg =>
    obtain ⟨a, rfl, -⟩ := hg.1
    obtain ⟨b, rfl, b0, b1⟩ := hg.2.1
    have b0 : (1 : Int) ≤ b.toInt := b0
    refine am_Ev_mono (ab_common (h := h)) (fun r ks h' hq => ?_)
    obtain ⟨q1, rfl, g, rfl, hgz⟩ := hq
    have hz := ac_ne' (hgz (fun e => by rw [e] at b0; exact absurd b0 (by decide)))
    rw [show (0 : Int32).toInt = 0 by decide] at hz
    have h32 := ab_32 g
    refine ⟨q1, hI, hj, ab_Fr_refl, ?_⟩
    rcases Int.lt_or_gt_of_ne hz with hl | hl
    · exact ⟨_, List.mem_cons_self, (show ab_g (ab_i (-2147483648) (-1)) (.int g) from ab_i_ok (by omega) (by omega)), fun q h => absurd h List.not_mem_nil, hp⟩
    · exact ⟨_, List.mem_cons_of_mem _ List.mem_cons_self, (show ab_g (ab_i 1 2147483647) (.int g) from ab_i_ok (by omega) (by omega)), fun q h => absurd h List.not_mem_nil, hp⟩
-- isSmall
theorem ac_h289 (hX : ac_XF X) : ab_Con ab_tab (ac_JX X) ab_s289 := ab_con (M := am_m152) (cl := []) (mdo := []) rfl (ac_JX_fr hX rfl) (fun _ h => absurd h List.not_mem_nil) ab_q289
-- isDigit
theorem ac_h291 (hX : ac_XF X) : ab_Con ab_tab (ac_JX X) ab_s291 := ab_con (M := am_m155) (cl := []) (mdo := []) rfl (ac_JX_fr hX rfl) (fun _ h => absurd h List.not_mem_nil) ab_q291
-- packed
theorem ac_h292 (hX : ac_XF X) : ab_Con ab_tab (ac_JX X) ab_s292 := ab_con (M := am_m154) (cl := []) (mdo := []) rfl (ac_JX_fr hX rfl) (fun _ h => absurd h List.not_mem_nil) ab_q292
-- wrong
theorem ac_h296 (hX : ac_XF X) : ab_Con ab_tab (ac_JX X) ab_s296 := ab_con (M := am_m158) (cl := []) (mdo := [(164, 5), (164, 6)]) rfl (ac_JX_fr hX rfl) (fun _ h => absurd h List.not_mem_nil) ab_q296
-- isOnce
theorem ac_h306 (hX : ac_XF X) : ab_Con ab_tab (ac_JX X) ab_s306 := ab_con (M := am_m160) (cl := [ab_s288, ab_s296]) (mdo := [(167, 1)]) rfl (ac_JX_fr hX rfl) (List.forall_mem_cons.mpr ⟨ac_h288 hX, List.forall_mem_cons.mpr ⟨ac_h296 hX, fun _ h => absurd h List.not_mem_nil⟩⟩) ab_q306
-- isIn
theorem ac_h329 (hX : ac_XF X) : ab_Con ab_tab (ac_JX X) ab_s329 := ab_con (M := am_m162) (cl := []) (mdo := []) rfl (ac_JX_fr hX rfl) (fun _ h => absurd h List.not_mem_nil) ab_q329
-- number
theorem ac_h328 (hX : ac_XF X) : ab_Con ab_tab (ac_JX X) ab_s328 := ab_con (M := am_m161) (cl := [ab_s288, ab_s296, ab_s329]) (mdo := [(164, 12)]) rfl (ac_JX_fr hX rfl) (List.forall_mem_cons.mpr ⟨ac_h288 hX, List.forall_mem_cons.mpr ⟨ac_h296 hX, List.forall_mem_cons.mpr ⟨ac_h329 hX, fun _ h => absurd h List.not_mem_nil⟩⟩⟩) ab_q328
-- isIn
theorem ac_h195 (hX : ac_XF X) : ab_Con ab_tab (ac_JX X) ab_s195 := ab_con (M := am_m162) (cl := []) (mdo := []) rfl (ac_JX_fr hX rfl) (fun _ h => absurd h List.not_mem_nil) ab_q195
-- number
theorem ac_h330 (hX : ac_XF X) : ab_Con ab_tab (ac_JX X) ab_s330 := ab_con (M := am_m161) (cl := [ab_s288, ab_s296, ab_s195]) (mdo := [(164, 12)]) rfl (ac_JX_fr hX rfl) (List.forall_mem_cons.mpr ⟨ac_h288 hX, List.forall_mem_cons.mpr ⟨ac_h296 hX, List.forall_mem_cons.mpr ⟨ac_h195 hX, fun _ h => absurd h List.not_mem_nil⟩⟩⟩) ab_q330
-- bedLine
theorem ac_h297 (hX : ac_XF X) : ab_Con ab_tab (ac_JX X) ab_s297 := ab_con (M := am_m159) (cl := [ab_s306, ab_s328, ab_s330]) (mdo := [(168, 7), (168, 8)]) rfl (ac_JX_fr hX rfl) (List.forall_mem_cons.mpr ⟨ac_h306 hX, List.forall_mem_cons.mpr ⟨ac_h328 hX, List.forall_mem_cons.mpr ⟨ac_h330 hX, fun _ h => absurd h List.not_mem_nil⟩⟩⟩) ab_q297
-- find
theorem ac_h308 (hX : ac_XF X) : ab_Con ab_tab (ac_JX X) ab_s308 := ab_con (M := am_m165) (cl := []) (mdo := []) rfl (ac_JX_fr hX rfl) (fun _ h => absurd h List.not_mem_nil) ab_q308
-- newName
theorem ac_h307 (hX : ac_XF X) : ab_Con ab_tab (ac_JX X) ab_s307 := ab_con (M := am_m164) (cl := [ab_s288, ab_s296, ab_s308]) (mdo := [(169, 0)]) rfl (ac_JX_fr hX rfl) (List.forall_mem_cons.mpr ⟨ac_h288 hX, List.forall_mem_cons.mpr ⟨ac_h296 hX, List.forall_mem_cons.mpr ⟨ac_h308 hX, fun _ h => absurd h List.not_mem_nil⟩⟩⟩) ab_q307
-- isIn
theorem ac_h333 (hX : ac_XF X) : ab_Con ab_tab (ac_JX X) ab_s333 := ab_con (M := am_m162) (cl := []) (mdo := []) rfl (ac_JX_fr hX rfl) (fun _ h => absurd h List.not_mem_nil) ab_q333
-- number
theorem ac_h331 (hX : ac_XF X) : ab_Con ab_tab (ac_JX X) ab_s331 := ab_con (M := am_m161) (cl := [ab_s288, ab_s296, ab_s333]) (mdo := [(164, 12)]) rfl (ac_JX_fr hX rfl) (List.forall_mem_cons.mpr ⟨ac_h288 hX, List.forall_mem_cons.mpr ⟨ac_h296 hX, List.forall_mem_cons.mpr ⟨ac_h333 hX, fun _ h => absurd h List.not_mem_nil⟩⟩⟩) ab_q331
-- isIn
theorem ac_h334 (hX : ac_XF X) : ab_Con ab_tab (ac_JX X) ab_s334 := ab_con (M := am_m162) (cl := []) (mdo := []) rfl (ac_JX_fr hX rfl) (fun _ h => absurd h List.not_mem_nil) ab_q334
-- number
theorem ac_h332 (hX : ac_XF X) : ab_Con ab_tab (ac_JX X) ab_s332 := ab_con (M := am_m161) (cl := [ab_s288, ab_s296, ab_s334]) (mdo := [(164, 12)]) rfl (ac_JX_fr hX rfl) (List.forall_mem_cons.mpr ⟨ac_h288 hX, List.forall_mem_cons.mpr ⟨ac_h296 hX, List.forall_mem_cons.mpr ⟨ac_h334 hX, fun _ h => absurd h List.not_mem_nil⟩⟩⟩) ab_q332
-- isIn
theorem ac_h180 (hX : ac_XF X) : ab_Con ab_tab (ac_JX X) ab_s180 := ab_con (M := am_m162) (cl := []) (mdo := []) rfl (ac_JX_fr hX rfl) (fun _ h => absurd h List.not_mem_nil) ab_q180
-- number
theorem ac_h309 (hX : ac_XF X) : ab_Con ab_tab (ac_JX X) ab_s309 := ab_con (M := am_m161) (cl := [ab_s288, ab_s296, ab_s180]) (mdo := [(164, 12)]) rfl (ac_JX_fr hX rfl) (List.forall_mem_cons.mpr ⟨ac_h288 hX, List.forall_mem_cons.mpr ⟨ac_h296 hX, List.forall_mem_cons.mpr ⟨ac_h180 hX, fun _ h => absurd h List.not_mem_nil⟩⟩⟩) ab_q309
-- isOnce
theorem ac_h310 (hX : ac_XF X) : ab_Con ab_tab (ac_JX X) ab_s310 := ab_con (M := am_m160) (cl := [ab_s288, ab_s296]) (mdo := [(167, 2)]) rfl (ac_JX_fr hX rfl) (List.forall_mem_cons.mpr ⟨ac_h288 hX, List.forall_mem_cons.mpr ⟨ac_h296 hX, fun _ h => absurd h List.not_mem_nil⟩⟩) ab_q310
-- isIn
theorem ac_h312 (hX : ac_XF X) : ab_Con ab_tab (ac_JX X) ab_s312 := ab_con (M := am_m162) (cl := []) (mdo := []) rfl (ac_JX_fr hX rfl) (fun _ h => absurd h List.not_mem_nil) ab_q312
-- number
theorem ac_h311 (hX : ac_XF X) : ab_Con ab_tab (ac_JX X) ab_s311 := ab_con (M := am_m161) (cl := [ab_s288, ab_s296, ab_s312]) (mdo := [(164, 12)]) rfl (ac_JX_fr hX rfl) (List.forall_mem_cons.mpr ⟨ac_h288 hX, List.forall_mem_cons.mpr ⟨ac_h296 hX, List.forall_mem_cons.mpr ⟨ac_h312 hX, fun _ h => absurd h List.not_mem_nil⟩⟩⟩) ab_q311
-- pumpLine
theorem ac_h300 (hX : ac_XF X) : ab_Con ab_tab (ac_JX X) ab_s300 := ab_con (M := am_m167) (cl := [ab_s310, ab_s311]) (mdo := [(168, 9), (168, 10)]) rfl (ac_JX_fr hX rfl) (List.forall_mem_cons.mpr ⟨ac_h310 hX, List.forall_mem_cons.mpr ⟨ac_h311 hX, fun _ h => absurd h List.not_mem_nil⟩⟩) ab_q300
-- isIn
theorem ac_h336 (hX : ac_XF X) : ab_Con ab_tab (ac_JX X) ab_s336 := ab_con (M := am_m162) (cl := []) (mdo := []) rfl (ac_JX_fr hX rfl) (fun _ h => absurd h List.not_mem_nil) ab_q336
-- number
theorem ac_h335 (hX : ac_XF X) : ab_Con ab_tab (ac_JX X) ab_s335 := ab_con (M := am_m161) (cl := [ab_s288, ab_s296, ab_s336]) (mdo := [(164, 12)]) rfl (ac_JX_fr hX rfl) (List.forall_mem_cons.mpr ⟨ac_h288 hX, List.forall_mem_cons.mpr ⟨ac_h296 hX, List.forall_mem_cons.mpr ⟨ac_h336 hX, fun _ h => absurd h List.not_mem_nil⟩⟩⟩) ab_q335
-- find
theorem ac_h314 (hX : ac_XF X) : ab_Con ab_tab (ac_JX X) ab_s314 := ab_con (M := am_m165) (cl := []) (mdo := []) rfl (ac_JX_fr hX rfl) (fun _ h => absurd h List.not_mem_nil) ab_q314
-- newName
theorem ac_h313 (hX : ac_XF X) : ab_Con ab_tab (ac_JX X) ab_s313 := ab_con (M := am_m164) (cl := [ab_s288, ab_s296, ab_s314]) (mdo := [(175, 0)]) rfl (ac_JX_fr hX rfl) (List.forall_mem_cons.mpr ⟨ac_h288 hX, List.forall_mem_cons.mpr ⟨ac_h296 hX, List.forall_mem_cons.mpr ⟨ac_h314 hX, fun _ h => absurd h List.not_mem_nil⟩⟩⟩) ab_q313
-- isIn
theorem ac_h316 (hX : ac_XF X) : ab_Con ab_tab (ac_JX X) ab_s316 := ab_con (M := am_m162) (cl := []) (mdo := []) rfl (ac_JX_fr hX rfl) (fun _ h => absurd h List.not_mem_nil) ab_q316
-- number
theorem ac_h315 (hX : ac_XF X) : ab_Con ab_tab (ac_JX X) ab_s315 := ab_con (M := am_m161) (cl := [ab_s288, ab_s296, ab_s316]) (mdo := [(164, 12)]) rfl (ac_JX_fr hX rfl) (List.forall_mem_cons.mpr ⟨ac_h288 hX, List.forall_mem_cons.mpr ⟨ac_h296 hX, List.forall_mem_cons.mpr ⟨ac_h316 hX, fun _ h => absurd h List.not_mem_nil⟩⟩⟩) ab_q315
-- trialLine
theorem ac_h302 (hX : ac_XF X) : ab_Con ab_tab (ac_JX X) ab_s302 := ab_con (M := am_m169) (cl := [ab_s288, ab_s311, ab_s315, ab_s296, ab_s313]) (mdo := [(164, 21), (176, 0), (177, 0)]) rfl (ac_JX_fr hX rfl) (List.forall_mem_cons.mpr ⟨ac_h288 hX, List.forall_mem_cons.mpr ⟨ac_h311 hX, List.forall_mem_cons.mpr ⟨ac_h315 hX, List.forall_mem_cons.mpr ⟨ac_h296 hX, List.forall_mem_cons.mpr ⟨ac_h313 hX, fun _ h => absurd h List.not_mem_nil⟩⟩⟩⟩⟩) ab_q302
-- isOnce
theorem ac_h303 (hX : ac_XF X) : ab_Con ab_tab (ac_JX X) ab_s303 := ab_con (M := am_m160) (cl := [ab_s288, ab_s296]) (mdo := [(167, 3)]) rfl (ac_JX_fr hX rfl) (List.forall_mem_cons.mpr ⟨ac_h288 hX, List.forall_mem_cons.mpr ⟨ac_h296 hX, fun _ h => absurd h List.not_mem_nil⟩⟩) ab_q303
-- isOnce
theorem ac_h304 (hX : ac_XF X) : ab_Con ab_tab (ac_JX X) ab_s304 := ab_con (M := am_m160) (cl := [ab_s288, ab_s296]) (mdo := [(167, 4)]) rfl (ac_JX_fr hX rfl) (List.forall_mem_cons.mpr ⟨ac_h288 hX, List.forall_mem_cons.mpr ⟨ac_h296 hX, fun _ h => absurd h List.not_mem_nil⟩⟩) ab_q304
-- isSign
theorem ac_h317 (hX : ac_XF X) : ab_Con ab_tab (ac_JX X) ab_s317 := ab_con (M := am_m171) (cl := []) (mdo := []) rfl (ac_JX_fr hX rfl) (fun _ h => absurd h List.not_mem_nil) ab_q317
-- isKey
theorem ac_h320 (hX : ac_XF X) : ab_Con ab_tab (ac_JX X) ab_s320 := ab_con (M := am_m174) (cl := []) (mdo := []) rfl (ac_JX_fr hX rfl) (fun _ h => absurd h List.not_mem_nil) ab_q320
-- isCounted
theorem ac_h321 (hX : ac_XF X) : ab_Con ab_tab (ac_JX X) ab_s321 := ab_con (M := am_m175) (cl := [ab_s296]) (mdo := [(164, 45)]) rfl (ac_JX_fr hX rfl) (List.forall_mem_cons.mpr ⟨ac_h296 hX, fun _ h => absurd h List.not_mem_nil⟩) ab_q321
-- nameMet
theorem ac_h322 (hX : ac_XF X) : ab_Con ab_tab (ac_JX X) ab_s322 := ab_con (M := am_m176) (cl := []) (mdo := []) rfl (ac_JX_fr hX rfl) (fun _ h => absurd h List.not_mem_nil) ab_q322
-- rank
theorem ac_h326 (hX : ac_XF X) : ab_Con ab_tab (ac_JX X) ab_s326 := ab_con (M := am_m180) (cl := []) (mdo := []) rfl (ac_JX_fr hX rfl) (fun _ h => absurd h List.not_mem_nil) ab_q326
-- isIn
theorem ac_h161 (hX : ac_XF X) : ab_Con ab_tab (ac_JX X) ab_s161 := ab_con (M := am_m162) (cl := []) (mdo := []) rfl (ac_JX_fr hX rfl) (fun _ h => absurd h List.not_mem_nil) ab_q161
-- number
theorem ac_h337 (hX : ac_XF X) : ab_Con ab_tab (ac_JX X) ab_s337 := ab_con (M := am_m161) (cl := [ab_s288, ab_s296, ab_s161]) (mdo := [(164, 12)]) rfl (ac_JX_fr hX rfl) (List.forall_mem_cons.mpr ⟨ac_h288 hX, List.forall_mem_cons.mpr ⟨ac_h296 hX, List.forall_mem_cons.mpr ⟨ac_h161 hX, fun _ h => absurd h List.not_mem_nil⟩⟩⟩) ab_q337
-- isIn
theorem ac_h339 (hX : ac_XF X) : ab_Con ab_tab (ac_JX X) ab_s339 := ab_con (M := am_m162) (cl := []) (mdo := []) rfl (ac_JX_fr hX rfl) (fun _ h => absurd h List.not_mem_nil) ab_q339
-- number
theorem ac_h338 (hX : ac_XF X) : ab_Con ab_tab (ac_JX X) ab_s338 := ab_con (M := am_m161) (cl := [ab_s288, ab_s296, ab_s339]) (mdo := [(164, 12)]) rfl (ac_JX_fr hX rfl) (List.forall_mem_cons.mpr ⟨ac_h288 hX, List.forall_mem_cons.mpr ⟨ac_h296 hX, List.forall_mem_cons.mpr ⟨ac_h339 hX, fun _ h => absurd h List.not_mem_nil⟩⟩⟩) ab_q338
-- number1
theorem ac_h272 (hX : ac_XF X) : ab_Con ab_tab (ac_JX X) ab_s272 := ab_con (M := am_m148) (cl := []) (mdo := [(164, 60)]) rfl (ac_JX_fr hX rfl) (fun _ h => absurd h List.not_mem_nil) ab_q272
-- atFirst
theorem ac_h356 (hX : ac_XF X) : ab_Con ab_tab (ac_JX X) ab_s356 := ab_con (M := am_m147) (cl := []) (mdo := [(188, 0), (189, 0), (190, 0), (191, 0), (192, 0), (193, 0), (194, 0)]) rfl (ac_JX_fr hX rfl) (fun _ h => absurd h List.not_mem_nil) ab_q356
-- begin
theorem ac_h355 (hX : ac_XF X) : ab_Con ab_tab (ac_JX X) ab_s355 := ab_conH (M := am_m146) (cl := [ab_s356]) (mdo := [(164, 58), (164, 59), (164, 60), (164, 61), (164, 62), (164, 63), (164, 74), (164, 75), (164, 78), (164, 80)]) (hs := [28]) rfl (ac_JX_fr hX rfl) (List.forall_mem_cons.mpr ⟨ac_h356 hX, fun _ h => absurd h List.not_mem_nil⟩) (fun as h0 _ t ht => (List.mem_singleton.mp ht) ▸ ab_bg_hole (fun h hj => hj.1.2.2.2.1) (ac_JX_fr hX rfl) (by decide +kernel) (by decide +kernel) (by decide +kernel)) ab_q355
-- fault
theorem ac_h5 (hX : ac_XF X) : ab_Con ab_tab (ac_JX X) ab_s5 := ab_con (M := am_m182) (cl := []) (mdo := [(164, 3)]) rfl (ac_JX_fr hX rfl) (fun _ h => absurd h List.not_mem_nil) ab_q5
-- find
theorem ac_h145 (hX : ac_XF X) : ab_Con ab_tab (ac_JX X) ab_s145 := ab_con (M := am_m165) (cl := []) (mdo := []) rfl (ac_JX_fr hX rfl) (fun _ h => absurd h List.not_mem_nil) ab_q145
-- find
theorem ac_h146 (hX : ac_XF X) : ab_Con ab_tab (ac_JX X) ab_s146 := ab_con (M := am_m165) (cl := []) (mdo := []) rfl (ac_JX_fr hX rfl) (fun _ h => absurd h List.not_mem_nil) ab_q146
-- named
theorem ac_h7 (hX : ac_XF X) : ab_Con ab_tab (ac_JX X) ab_s7 := ab_con (M := am_m183) (cl := [ab_s146, ab_s145]) (mdo := [(164, 3)]) rfl (ac_JX_fr hX rfl) (List.forall_mem_cons.mpr ⟨ac_h146 hX, List.forall_mem_cons.mpr ⟨ac_h145 hX, fun _ h => absurd h List.not_mem_nil⟩⟩) ab_q7
-- isBlower
theorem ac_h147 (hX : ac_XF X) : ab_Con ab_tab (ac_JX X) ab_s147 := ab_con (M := am_m185) (cl := []) (mdo := []) rfl (ac_JX_fr hX rfl) (fun _ h => absurd h List.not_mem_nil) ab_q147
-- fails
theorem ac_h148 (hX : ac_XF X) : ab_Con ab_tab (ac_JX X) ab_s148 := ab_con (M := am_m186) (cl := []) (mdo := [(164, 3)]) rfl (ac_JX_fr hX rfl) (fun _ h => absurd h List.not_mem_nil) ab_q148
-- look
theorem ac_h8 (hX : ac_XF X) : ab_Con ab_tab (ac_JX X) ab_s8 := ab_con (M := am_m184) (cl := [ab_s148, ab_s147]) (mdo := [(164, 3)]) rfl (ac_JX_fr hX rfl) (List.forall_mem_cons.mpr ⟨ac_h148 hX, List.forall_mem_cons.mpr ⟨ac_h147 hX, fun _ h => absurd h List.not_mem_nil⟩⟩) ab_q8
-- isIn
theorem ac_h159 (hX : ac_XF X) : ab_Con ab_tab (ac_JX X) ab_s159 := ab_con (M := am_m162) (cl := []) (mdo := []) rfl (ac_JX_fr hX rfl) (fun _ h => absurd h List.not_mem_nil) ab_q159
-- isIn
theorem ac_h160 (hX : ac_XF X) : ab_Con ab_tab (ac_JX X) ab_s160 := ab_con (M := am_m162) (cl := []) (mdo := []) rfl (ac_JX_fr hX rfl) (fun _ h => absurd h List.not_mem_nil) ab_q160
-- layNames
theorem ac_h162 (hX : ac_XF X) : ab_Con ab_tab (ac_JX X) ab_s162 := ab_con (M := am_m189) (cl := []) (mdo := [(186, 1), (186, 2), (186, 3), (186, 4), (186, 5), (186, 6)]) rfl (ac_JX_fr hX rfl) (fun _ h => absurd h List.not_mem_nil) ab_q162
-- bounded
theorem ac_h167 (hX : ac_XF X) : ab_Con ab_tab (ac_JX X) ab_s167 := ab_con (M := am_m193) (cl := []) (mdo := [(164, 50)]) rfl (ac_JX_fr hX rfl) (fun _ h => absurd h List.not_mem_nil) ab_q167
-- times
theorem ac_h168 (hX : ac_XF X) : ab_Con ab_tab (ac_JX X) ab_s168 := ab_con (M := am_m194) (cl := []) (mdo := [(164, 50)]) rfl (ac_JX_fr hX rfl) (fun _ h => absurd h List.not_mem_nil) ab_q168
-- compares
theorem ac_h169 (hX : ac_XF X) : ab_Con ab_tab (ac_JX X) ab_s169 := ab_con (M := am_m195) (cl := []) (mdo := []) rfl (ac_JX_fr hX rfl) (fun _ h => absurd h List.not_mem_nil) ab_q169
-- valueOf
theorem ac_h166 (hX : ac_XF X) : ab_Con ab_tab (ac_JX X) ab_s166 := ab_conH (M := am_m192) (cl := [ab_s167, ab_s168, ab_s169]) (mdo := [(164, 50)]) (hs := [0]) rfl (ac_JX_fr hX rfl) (List.forall_mem_cons.mpr ⟨ac_h167 hX, List.forall_mem_cons.mpr ⟨ac_h168 hX, List.forall_mem_cons.mpr ⟨ac_h169 hX, fun _ h => absurd h List.not_mem_nil⟩⟩⟩) (fun as h0 _ t ht => (List.mem_singleton.mp ht) ▸ ab_mval_hole (fun h hj => hj.1.2.1) (by decide +kernel) (by decide +kernel) (by decide +kernel) (by decide +kernel) (by decide +kernel)) ab_q166
-- lawOf
theorem ac_h164 (hX : ac_XF X) : ab_Con ab_tab (ac_JX X) ab_s164 := ab_conH (M := am_m191) (cl := [ab_s166]) (mdo := [(164, 50), (187, 0)]) (hs := [28]) rfl (ac_JX_fr hX rfl) (List.forall_mem_cons.mpr ⟨ac_h166 hX, fun _ h => absurd h List.not_mem_nil⟩) (fun as h0 _ t ht => (List.mem_singleton.mp ht) ▸ ab_mlaw_hole (fun h hj => hj.1.2.2.1) (w := 2) (by decide) (by decide +kernel) (by decide +kernel)) ab_q164
-- boundLaw
theorem ac_h165 (hX : ac_XF X) : ab_Con ab_tab (ac_JX X) ab_s165 := ab_con (M := am_m190) (cl := [ab_s164]) (mdo := []) rfl (ac_JX_fr hX rfl) (List.forall_mem_cons.mpr ⟨ac_h164 hX, fun _ h => absurd h List.not_mem_nil⟩) ab_q165
-- loadOf
theorem ac_h163 (hX : ac_XF X) : ab_Con ab_tab (ac_JX X) ab_s163 := ab_con (M := am_m188) (cl := [ab_s165, ab_s162]) (mdo := []) rfl (ac_JX_fr hX rfl) (List.forall_mem_cons.mpr ⟨ac_h165 hX, List.forall_mem_cons.mpr ⟨ac_h162 hX, fun _ h => absurd h List.not_mem_nil⟩⟩) ab_q163
-- lawOf
theorem ac_h170 (hX : ac_XF X) : ab_Con ab_tab (ac_JX X) ab_s170 := ab_conH (M := am_m191) (cl := [ab_s166]) (mdo := [(164, 50), (187, 0)]) (hs := [28]) rfl (ac_JX_fr hX rfl) (List.forall_mem_cons.mpr ⟨ac_h166 hX, fun _ h => absurd h List.not_mem_nil⟩) (fun as h0 _ t ht => (List.mem_singleton.mp ht) ▸ ab_mlaw_hole (fun h hj => hj.1.2.2.1) (w := 1) (by decide) (by decide +kernel) (by decide +kernel)) ab_q170
-- lawOf
theorem ac_h171 (hX : ac_XF X) : ab_Con ab_tab (ac_JX X) ab_s171 := ab_conH (M := am_m191) (cl := [ab_s166]) (mdo := [(164, 50), (187, 0)]) (hs := [28]) rfl (ac_JX_fr hX rfl) (List.forall_mem_cons.mpr ⟨ac_h166 hX, fun _ h => absurd h List.not_mem_nil⟩) (fun as h0 _ t ht => (List.mem_singleton.mp ht) ▸ ab_mlaw_hole (fun h hj => hj.1.2.2.1) (w := 0) (by decide) (by decide +kernel) (by decide +kernel)) ab_q171
-- law
theorem ac_h10 (hX : ac_XF X) : ab_Con ab_tab (ac_JX X) ab_s10 := ab_con (M := am_m187) (cl := [ab_s164, ab_s170, ab_s171, ab_s163, ab_s159, ab_s160, ab_s161, ab_s162]) (mdo := [(164, 3)]) rfl (ac_JX_fr hX rfl) (List.forall_mem_cons.mpr ⟨ac_h164 hX, List.forall_mem_cons.mpr ⟨ac_h170 hX, List.forall_mem_cons.mpr ⟨ac_h171 hX, List.forall_mem_cons.mpr ⟨ac_h163 hX, List.forall_mem_cons.mpr ⟨ac_h159 hX, List.forall_mem_cons.mpr ⟨ac_h160 hX, List.forall_mem_cons.mpr ⟨ac_h161 hX, List.forall_mem_cons.mpr ⟨ac_h162 hX, fun _ h => absurd h List.not_mem_nil⟩⟩⟩⟩⟩⟩⟩⟩) ab_q10
-- copyBed
theorem ac_h219 (hX : ac_XF X) : ab_Con ab_tab (ac_JX X) ab_s219 := ab_con (M := am_m197) (cl := []) (mdo := [(188, 0), (189, 0), (190, 0), (191, 0), (192, 0), (193, 0), (194, 0)]) rfl (ac_JX_fr hX rfl) (fun _ h => absurd h List.not_mem_nil) ab_q219
-- boundLaw
theorem ac_h222 (hX : ac_XF X) : ab_Con ab_tab (ac_JX X) ab_s222 := ab_con (M := am_m190) (cl := [ab_s171]) (mdo := []) rfl (ac_JX_fr hX rfl) (List.forall_mem_cons.mpr ⟨ac_h171 hX, fun _ h => absurd h List.not_mem_nil⟩) ab_q222
-- isOf
theorem ac_h189 (hX : ac_XF X) : ab_Con ab_tab (ac_JX X) ab_s189 := ab_con (M := am_m202) (cl := []) (mdo := []) rfl (ac_JX_fr hX rfl) (fun _ h => absurd h List.not_mem_nil) ab_q189
-- leakOf
theorem ac_h223 (hX : ac_XF X) : ab_Con ab_tab (ac_JX X) ab_s223 := ab_con (M := am_m201) (cl := [ab_s189]) (mdo := []) rfl (ac_JX_fr hX rfl) (List.forall_mem_cons.mpr ⟨ac_h189 hX, fun _ h => absurd h List.not_mem_nil⟩) ab_q223
-- fullNext
theorem ac_h221 (hX : ac_XF X) : ab_Con ab_tab (ac_JX X) ab_s221 := ab_con (M := am_m200) (cl := [ab_s223, ab_s163, ab_s222, ab_s162]) (mdo := []) rfl (ac_JX_fr hX rfl) (List.forall_mem_cons.mpr ⟨ac_h223 hX, List.forall_mem_cons.mpr ⟨ac_h163 hX, List.forall_mem_cons.mpr ⟨ac_h222 hX, List.forall_mem_cons.mpr ⟨ac_h162 hX, fun _ h => absurd h List.not_mem_nil⟩⟩⟩⟩) ab_q221
-- aSecond
theorem ac_h220 (hX : ac_XF X) : ab_Con ab_tab (ac_JX X) ab_s220 := ab_con (M := am_m199) (cl := [ab_s221]) (mdo := [(188, 0), (189, 0)]) rfl (ac_JX_fr hX rfl) (List.forall_mem_cons.mpr ⟨ac_h221 hX, fun _ h => absurd h List.not_mem_nil⟩) ab_q220
-- breathOf
theorem ac_h227 (hX : ac_XF X) : ab_Con ab_tab (ac_JX X) ab_s227 := ab_con (M := am_m206) (cl := []) (mdo := []) rfl (ac_JX_fr hX rfl) (fun _ h => absurd h List.not_mem_nil) ab_q227
-- boundLaw
theorem ac_h228 (hX : ac_XF X) : ab_Con ab_tab (ac_JX X) ab_s228 := ab_con (M := am_m190) (cl := [ab_s170]) (mdo := []) rfl (ac_JX_fr hX rfl) (List.forall_mem_cons.mpr ⟨ac_h170 hX, fun _ h => absurd h List.not_mem_nil⟩) ab_q228
-- fills
theorem ac_h226 (hX : ac_XF X) : ab_Con ab_tab (ac_JX X) ab_s226 := ab_con (M := am_m205) (cl := [ab_s163, ab_s227, ab_s228, ab_s162]) (mdo := [(188, 0), (190, 0), (191, 0), (192, 0), (193, 0)]) rfl (ac_JX_fr hX rfl) (List.forall_mem_cons.mpr ⟨ac_h163 hX, List.forall_mem_cons.mpr ⟨ac_h227 hX, List.forall_mem_cons.mpr ⟨ac_h228 hX, List.forall_mem_cons.mpr ⟨ac_h162 hX, fun _ h => absurd h List.not_mem_nil⟩⟩⟩⟩) ab_q226
-- handsOver
theorem ac_h259 (hX : ac_XF X) : ab_Con ab_tab (ac_JX X) ab_s259 := ab_con (M := am_m198) (cl := []) (mdo := []) rfl (ac_JX_fr hX rfl) (fun _ h => absurd h List.not_mem_nil) ab_q259
-- rests
theorem ac_h225 (hX : ac_XF X) : ab_Con ab_tab (ac_JX X) ab_s225 := ab_con (M := am_m204) (cl := []) (mdo := [(191, 0)]) rfl (ac_JX_fr hX rfl) (fun _ h => absurd h List.not_mem_nil) ab_q225
-- isDizzy
theorem ac_h260 (hX : ac_XF X) : ab_Con ab_tab (ac_JX X) ab_s260 := ab_con (M := am_m203) (cl := [ab_s225]) (mdo := []) rfl (ac_JX_fr hX rfl) (List.forall_mem_cons.mpr ⟨ac_h225 hX, fun _ h => absurd h List.not_mem_nil⟩) ab_q260
-- blow
theorem ac_h12 (hX : ac_XF X) : ab_Con ab_tab (ac_JX X) ab_s12 := ab_con (M := am_m196) (cl := [ab_s186, ab_s219, ab_s259, ab_s260, ab_s220, ab_s226, ab_s180, ab_s147]) (mdo := [(164, 3)]) rfl (ac_JX_fr hX rfl) (List.forall_mem_cons.mpr ⟨ac_h186 hX, List.forall_mem_cons.mpr ⟨ac_h219 hX, List.forall_mem_cons.mpr ⟨ac_h259 hX, List.forall_mem_cons.mpr ⟨ac_h260 hX, List.forall_mem_cons.mpr ⟨ac_h220 hX, List.forall_mem_cons.mpr ⟨ac_h226 hX, List.forall_mem_cons.mpr ⟨ac_h180 hX, List.forall_mem_cons.mpr ⟨ac_h147 hX, fun _ h => absurd h List.not_mem_nil⟩⟩⟩⟩⟩⟩⟩⟩) ab_q12
-- isIn
theorem ac_h182 (hX : ac_XF X) : ab_Con ab_tab (ac_JX X) ab_s182 := ab_con (M := am_m162) (cl := []) (mdo := []) rfl (ac_JX_fr hX rfl) (fun _ h => absurd h List.not_mem_nil) ab_q182
-- waits
theorem ac_h14 (hX : ac_XF X) : ab_Con ab_tab (ac_JX X) ab_s14 := ab_con (M := am_m209) (cl := [ab_s186, ab_s220, ab_s182]) (mdo := [(164, 3)]) rfl (ac_JX_fr hX rfl) (List.forall_mem_cons.mpr ⟨ac_h186 hX, List.forall_mem_cons.mpr ⟨ac_h220 hX, List.forall_mem_cons.mpr ⟨ac_h182 hX, fun _ h => absurd h List.not_mem_nil⟩⟩⟩) ab_q14
-- pump
theorem ac_h16 (hX : ac_XF X) : ab_Con ab_tab (ac_JX X) ab_s16 := ab_con (M := am_m210) (cl := [ab_s186, ab_s220]) (mdo := [(164, 3), (190, 1), (194, 1)]) rfl (ac_JX_fr hX rfl) (List.forall_mem_cons.mpr ⟨ac_h186 hX, List.forall_mem_cons.mpr ⟨ac_h220 hX, fun _ h => absurd h List.not_mem_nil⟩⟩) ab_q16
-- patch
theorem ac_h18 (hX : ac_XF X) : ab_Con ab_tab (ac_JX X) ab_s18 := ab_con (M := am_m211) (cl := [ab_s186, ab_s189]) (mdo := [(164, 3), (164, 58)]) rfl (ac_JX_fr hX rfl) (List.forall_mem_cons.mpr ⟨ac_h186 hX, List.forall_mem_cons.mpr ⟨ac_h189 hX, fun _ h => absurd h List.not_mem_nil⟩⟩) ab_q18
-- leak
theorem ac_h20 (hX : ac_XF X) : ab_Con ab_tab (ac_JX X) ab_s20 := ab_con (M := am_m212) (cl := []) (mdo := [(164, 3)]) rfl (ac_JX_fr hX rfl) (fun _ h => absurd h List.not_mem_nil) ab_q20
-- isIn
theorem ac_h191 (hX : ac_XF X) : ab_Con ab_tab (ac_JX X) ab_s191 := ab_con (M := am_m162) (cl := []) (mdo := []) rfl (ac_JX_fr hX rfl) (fun _ h => absurd h List.not_mem_nil) ab_q191
-- isIn
theorem ac_h193 (hX : ac_XF X) : ab_Con ab_tab (ac_JX X) ab_s193 := ab_con (M := am_m162) (cl := []) (mdo := []) rfl (ac_JX_fr hX rfl) (fun _ h => absurd h List.not_mem_nil) ab_q193
-- hands
theorem ac_h369 (hX : ac_XF X) : ab_Con ab_tab (ac_JX X) ab_s369 := ab_con (M := am_m219) (cl := [ab_s259, ab_s220]) (mdo := []) rfl (ac_JX_fr hX rfl) (List.forall_mem_cons.mpr ⟨ac_h259 hX, List.forall_mem_cons.mpr ⟨ac_h220 hX, fun _ h => absurd h List.not_mem_nil⟩⟩) ab_q369
-- canBreathe
theorem ac_h370 (hX : ac_XF X) : ab_Con ab_tab (ac_JX X) ab_s370 := ab_con (M := am_m220) (cl := [ab_s260, ab_s220, ab_s226]) (mdo := []) rfl (ac_JX_fr hX rfl) (List.forall_mem_cons.mpr ⟨ac_h260 hX, List.forall_mem_cons.mpr ⟨ac_h220 hX, List.forall_mem_cons.mpr ⟨ac_h226 hX, fun _ h => absurd h List.not_mem_nil⟩⟩⟩) ab_q370
-- takeBest
theorem ac_h371 (hX : ac_XF X) : ab_Con ab_tab (ac_JX X) ab_s371 := ab_con (M := am_m221) (cl := []) (mdo := [(164, 67), (164, 68), (195, 1), (195, 2), (195, 3), (195, 4)]) rfl (ac_JX_fr hX rfl) (fun _ h => absurd h List.not_mem_nil) ab_q371
-- secondTurns
theorem ac_h372 (hX : ac_XF X) : ab_Con ab_tab (ac_JX X) ab_s372 := ab_con (M := am_m222) (cl := [ab_s369, ab_s219, ab_s370, ab_s371]) (mdo := []) rfl (ac_JX_fr hX rfl) (List.forall_mem_cons.mpr ⟨ac_h369 hX, List.forall_mem_cons.mpr ⟨ac_h219 hX, List.forall_mem_cons.mpr ⟨ac_h370 hX, List.forall_mem_cons.mpr ⟨ac_h371 hX, fun _ h => absurd h List.not_mem_nil⟩⟩⟩⟩) ab_q372
-- layBest
theorem ac_h368 (hX : ac_XF X) : ab_Con ab_tab (ac_JX X) ab_s368 := ab_con (M := am_m218) (cl := [ab_s369, ab_s219, ab_s370, ab_s372, ab_s371]) (mdo := [(164, 67)]) rfl (ac_JX_fr hX rfl) (List.forall_mem_cons.mpr ⟨ac_h369 hX, List.forall_mem_cons.mpr ⟨ac_h219 hX, List.forall_mem_cons.mpr ⟨ac_h370 hX, List.forall_mem_cons.mpr ⟨ac_h372 hX, List.forall_mem_cons.mpr ⟨ac_h371 hX, fun _ h => absurd h List.not_mem_nil⟩⟩⟩⟩⟩) ab_q368
-- best
theorem ac_h24 (hX : ac_XF X) : ab_Con ab_tab (ac_JX X) ab_s24 := ab_con (M := am_m217) (cl := [ab_s368, ab_s193]) (mdo := [(164, 3)]) rfl (ac_JX_fr hX rfl) (List.forall_mem_cons.mpr ⟨ac_h368 hX, List.forall_mem_cons.mpr ⟨ac_h193 hX, fun _ h => absurd h List.not_mem_nil⟩⟩) ab_q24
-- isIn
theorem ac_h203 (hX : ac_XF X) : ab_Con ab_tab (ac_JX X) ab_s203 := ab_con (M := am_m162) (cl := []) (mdo := []) rfl (ac_JX_fr hX rfl) (fun _ h => absurd h List.not_mem_nil) ab_q203
-- lastsBy
theorem ac_h374 (hX : ac_XF X) : ab_Con ab_tab (ac_JX X) ab_s374 := ab_con (M := am_m224) (cl := [ab_s219, ab_s220]) (mdo := [(188, 2)]) rfl (ac_JX_fr hX rfl) (List.forall_mem_cons.mpr ⟨ac_h219 hX, List.forall_mem_cons.mpr ⟨ac_h220 hX, fun _ h => absurd h List.not_mem_nil⟩⟩) ab_q374
-- lasts
theorem ac_h26 (hX : ac_XF X) : ab_Con ab_tab (ac_JX X) ab_s26 := ab_con (M := am_m223) (cl := [ab_s374, ab_s203, ab_s195]) (mdo := [(164, 3)]) rfl (ac_JX_fr hX rfl) (List.forall_mem_cons.mpr ⟨ac_h374 hX, List.forall_mem_cons.mpr ⟨ac_h203 hX, List.forall_mem_cons.mpr ⟨ac_h195 hX, fun _ h => absurd h List.not_mem_nil⟩⟩⟩) ab_q26
-- isIn
theorem ac_h197 (hX : ac_XF X) : ab_Con ab_tab (ac_JX X) ab_s197 := ab_con (M := am_m162) (cl := []) (mdo := []) rfl (ac_JX_fr hX rfl) (fun _ h => absurd h List.not_mem_nil) ab_q197
-- firm
theorem ac_h28 (hX : ac_XF X) : ab_Con ab_tab (ac_JX X) ab_s28 := ab_con (M := am_m225) (cl := [ab_s374, ab_s197, ab_s203]) (mdo := [(164, 3)]) rfl (ac_JX_fr hX rfl) (List.forall_mem_cons.mpr ⟨ac_h374 hX, List.forall_mem_cons.mpr ⟨ac_h197 hX, List.forall_mem_cons.mpr ⟨ac_h203 hX, fun _ h => absurd h List.not_mem_nil⟩⟩⟩) ab_q28
-- isIn
theorem ac_h202 (hX : ac_XF X) : ab_Con ab_tab (ac_JX X) ab_s202 := ab_con (M := am_m162) (cl := []) (mdo := []) rfl (ac_JX_fr hX rfl) (fun _ h => absurd h List.not_mem_nil) ab_q202
-- isUp
theorem ac_h201 (hX : ac_XF X) : ab_Con ab_tab (ac_JX X) ab_s201 := ab_con (M := am_m227) (cl := [ab_s202, ab_s203]) (mdo := []) rfl (ac_JX_fr hX rfl) (List.forall_mem_cons.mpr ⟨ac_h202 hX, List.forall_mem_cons.mpr ⟨ac_h203 hX, fun _ h => absurd h List.not_mem_nil⟩⟩) ab_q201
-- getsUp
theorem ac_h224 (hX : ac_XF X) : ab_Con ab_tab (ac_JX X) ab_s224 := ab_con (M := am_m229) (cl := [ab_s220, ab_s225, ab_s226]) (mdo := [(191, 0)]) rfl (ac_JX_fr hX rfl) (List.forall_mem_cons.mpr ⟨ac_h220 hX, List.forall_mem_cons.mpr ⟨ac_h225 hX, List.forall_mem_cons.mpr ⟨ac_h226 hX, fun _ h => absurd h List.not_mem_nil⟩⟩⟩) ab_q224
-- isIn
theorem ac_h230 (hX : ac_XF X) : ab_Con ab_tab (ac_JX X) ab_s230 := ab_con (M := am_m162) (cl := []) (mdo := []) rfl (ac_JX_fr hX rfl) (fun _ h => absurd h List.not_mem_nil) ab_q230
-- lend
theorem ac_h36 (hX : ac_XF X) : ab_Con ab_tab (ac_JX X) ab_s36 := ab_con (M := am_m232) (cl := [ab_s219, ab_s220, ab_s160, ab_s230]) (mdo := [(164, 3)]) rfl (ac_JX_fr hX rfl) (List.forall_mem_cons.mpr ⟨ac_h219 hX, List.forall_mem_cons.mpr ⟨ac_h220 hX, List.forall_mem_cons.mpr ⟨ac_h160 hX, List.forall_mem_cons.mpr ⟨ac_h230 hX, fun _ h => absurd h List.not_mem_nil⟩⟩⟩⟩) ab_q36
-- seek
theorem ac_h38 (hX : ac_XF X) : ab_Con ab_tab (ac_JX X) ab_s38 := ab_con (M := am_m233) (cl := [ab_s160, ab_s189]) (mdo := [(164, 3), (196, 1), (196, 2), (196, 3), (196, 4), (196, 5), (196, 6), (197, 1), (197, 2), (197, 3), (197, 4), (197, 5), (197, 6)]) rfl (ac_JX_fr hX rfl) (List.forall_mem_cons.mpr ⟨ac_h160 hX, List.forall_mem_cons.mpr ⟨ac_h189 hX, fun _ h => absurd h List.not_mem_nil⟩⟩) ab_q38
-- mean
theorem ac_h40 (hX : ac_XF X) : ab_Con ab_tab (ac_JX X) ab_s40 := ab_conH (M := am_m234) (cl := [ab_s160, ab_s237]) (mdo := [(164, 3)]) (hs := [42]) rfl (ac_JX_fr hX rfl) (List.forall_mem_cons.mpr ⟨ac_h160 hX, List.forall_mem_cons.mpr ⟨ac_h237 hX, fun _ h => absurd h List.not_mem_nil⟩⟩) (fun as h0 _ t ht => (List.mem_singleton.mp ht) ▸ ac_mean_hole (fun h hj => hj.1.2.2.2.1) ab_c40_46_0 (by decide +kernel) (by decide +kernel) (by decide +kernel)) ab_q40
-- isIn
theorem ac_h265 (hX : ac_XF X) : ab_Con ab_tab (ac_JX X) ab_s265 := ab_con (M := am_m162) (cl := []) (mdo := []) rfl (ac_JX_fr hX rfl) (fun _ h => absurd h List.not_mem_nil) ab_q265
-- isIn
theorem ac_h268 (hX : ac_XF X) : ab_Con ab_tab (ac_JX X) ab_s268 := ab_con (M := am_m162) (cl := []) (mdo := []) rfl (ac_JX_fr hX rfl) (fun _ h => absurd h List.not_mem_nil) ab_q268
-- known
theorem ac_h50 (hX : ac_XF X) : ab_Con ab_tab (ac_JX X) ab_s50 := ab_con (M := am_m243) (cl := [ab_s268]) (mdo := [(164, 3), (164, 75)]) rfl (ac_JX_fr hX rfl) (List.forall_mem_cons.mpr ⟨ac_h268 hX, fun _ h => absurd h List.not_mem_nil⟩) ab_q50
-- knownBy
theorem ac_h271 (hX : ac_XF X) : ab_Con ab_tab (ac_JX X) ab_s271 := ab_con (M := am_m245) (cl := []) (mdo := []) rfl (ac_JX_fr hX rfl) (fun _ h => absurd h List.not_mem_nil) ab_q271
-- isSo
theorem ac_h392 (hX : ac_XF X) : ab_Con ab_tab (ac_JX X) ab_s392 := ab_conH (M := am_m246) (cl := [ab_s271, ab_s356, ab_s370]) (mdo := []) (hs := [6]) rfl (ac_JX_fr hX rfl) (List.forall_mem_cons.mpr ⟨ac_h271 hX, List.forall_mem_cons.mpr ⟨ac_h356 hX, List.forall_mem_cons.mpr ⟨ac_h370 hX, fun _ h => absurd h List.not_mem_nil⟩⟩⟩) (fun as h0 _ t ht => (List.mem_singleton.mp ht) ▸ ac_isSo_hole (fun h hj => hj.1.2.2.2.2.2.1) (by decide +kernel) (by decide +kernel)) ab_q392
-- fits
theorem ac_h52 (hX : ac_XF X) : ab_Con ab_tab (ac_JX X) ab_s52 := ab_conH (M := am_m244) (cl := [ab_s392, ab_s271]) (mdo := [(164, 3), (164, 58), (164, 63), (199, 0)]) (hs := [28]) rfl (ac_JX_fr hX rfl) (List.forall_mem_cons.mpr ⟨ac_h392 hX, List.forall_mem_cons.mpr ⟨ac_h271 hX, fun _ h => absurd h List.not_mem_nil⟩⟩) (fun as h0 _ t ht => (List.mem_singleton.mp ht) ▸ ac_fits_hole (fun h hj => hj.1.2.2.2.2.2.1) (by decide +kernel) (by decide +kernel) (by decide +kernel)) ac_q52
-- chance
theorem ac_h54 (hX : ac_XF X) : ab_Con ab_tab (ac_JX X) ab_s54 := ab_con (M := am_m247) (cl := [ab_s219, ab_s220, ab_s272, ab_s203, ab_s230]) (mdo := [(164, 3), (164, 60)]) rfl (ac_JX_fr hX rfl) (List.forall_mem_cons.mpr ⟨ac_h219 hX, List.forall_mem_cons.mpr ⟨ac_h220 hX, List.forall_mem_cons.mpr ⟨ac_h272 hX, List.forall_mem_cons.mpr ⟨ac_h203 hX, List.forall_mem_cons.mpr ⟨ac_h230 hX, fun _ h => absurd h List.not_mem_nil⟩⟩⟩⟩⟩) ab_q54
-- isIn
theorem ac_h275 (hX : ac_XF X) : ab_Con ab_tab (ac_JX X) ab_s275 := ab_con (M := am_m162) (cl := []) (mdo := []) rfl (ac_JX_fr hX rfl) (fun _ h => absurd h List.not_mem_nil) ab_q275
-- isIn
theorem ac_h276 (hX : ac_XF X) : ab_Con ab_tab (ac_JX X) ab_s276 := ab_con (M := am_m162) (cl := []) (mdo := []) rfl (ac_JX_fr hX rfl) (fun _ h => absurd h List.not_mem_nil) ab_q276
-- tried
theorem ac_h56 (hX : ac_XF X) : ab_Con ab_tab (ac_JX X) ab_s56 := ab_con (M := am_m248) (cl := [ab_s219, ab_s220, ab_s275, ab_s276]) (mdo := [(164, 3), (164, 61), (164, 62), (164, 63)]) rfl (ac_JX_fr hX rfl) (List.forall_mem_cons.mpr ⟨ac_h219 hX, List.forall_mem_cons.mpr ⟨ac_h220 hX, List.forall_mem_cons.mpr ⟨ac_h275 hX, List.forall_mem_cons.mpr ⟨ac_h276 hX, fun _ h => absurd h List.not_mem_nil⟩⟩⟩⟩) ab_q56
-- keep
theorem ac_h60 (hX : ac_XF X) : ab_Con ab_tab (ac_JX X) ab_s60 := ab_con (M := am_m251) (cl := [ab_s281]) (mdo := [(164, 3), (164, 80)]) rfl (ac_JX_fr hX rfl) (List.forall_mem_cons.mpr ⟨ac_h281 hX, fun _ h => absurd h List.not_mem_nil⟩) ab_q60
-- back
theorem ac_h62 (hX : ac_XF X) : ab_Con ab_tab (ac_JX X) ab_s62 := ab_con (M := am_m252) (cl := [ab_s283]) (mdo := [(164, 3), (164, 78)]) rfl (ac_JX_fr hX rfl) (List.forall_mem_cons.mpr ⟨ac_h283 hX, fun _ h => absurd h List.not_mem_nil⟩) ab_q62
-- count
theorem ac_h64 (hX : ac_XF X) : ab_Con ab_tab (ac_JX X) ab_s64 := ab_con (M := am_m253) (cl := [ab_s271]) (mdo := [(164, 3)]) rfl (ac_JX_fr hX rfl) (List.forall_mem_cons.mpr ⟨ac_h271 hX, fun _ h => absurd h List.not_mem_nil⟩) ab_q64
theorem ac_LCs (hX : ac_XF X) : ac_LC (ac_JX X) := ⟨ac_h297 hX, ac_h300 hX, ac_h302 hX, ac_h303 hX, ac_h304 hX, ac_h337 hX, ac_h338 hX, ac_h311 hX, ac_h335 hX, ac_h309 hX, ac_h331 hX, ac_h332 hX, ac_h307 hX⟩
theorem ac_SCs (hX : ac_XF X) : ac_SC (ac_JX X) := ⟨ac_h221 hX, ac_h259 hX, ac_h260 hX, ac_h225 hX, ac_h226 hX, ac_h227 hX⟩
end ACP
