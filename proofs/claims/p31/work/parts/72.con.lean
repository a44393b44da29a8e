/-! ===== CONTRACTS OF THE CLASS (wip/s/mkcon.py) ===== -/
theorem ab_Jc_p12 (h : am_H) (q : Nat) (op v : Int32) (hp : op = 1 → 0 ≤ v.toInt ∧ v.toInt ≤ 5) (hj : ab_Jc h) : ab_Jc (am_up (am_up h 12 q (.int op)) 13 q (.int v)) :=
  ⟨ab_J1_put (by decide) hj.1 hp, ab_J1_fr (fun k => by rw [am_up_other _ _ _ _ _ (by decide), am_up_other _ _ _ _ _ (by decide)]) (fun k => by rw [am_up_other _ _ _ _ _ (by decide), am_up_other _ _ _ _ _ (by decide)]) hj.2.1, ab_J2_fr (fun k => by rw [am_up_other _ _ _ _ _ (by decide), am_up_other _ _ _ _ _ (by decide)]) (fun k => by rw [am_up_other _ _ _ _ _ (by decide), am_up_other _ _ _ _ _ (by decide)]) hj.2.2⟩
theorem ab_Jc_p33 (h : am_H) (q : Nat) (op v : Int32) (hp : op = 1 → 0 ≤ v.toInt ∧ v.toInt ≤ 5) (hj : ab_Jc h) : ab_Jc (am_up (am_up h 33 q (.int op)) 34 q (.int v)) :=
  ⟨ab_J1_fr (fun k => by rw [am_up_other _ _ _ _ _ (by decide), am_up_other _ _ _ _ _ (by decide)]) (fun k => by rw [am_up_other _ _ _ _ _ (by decide), am_up_other _ _ _ _ _ (by decide)]) hj.1, ab_J1_put (by decide) hj.2.1 hp, ab_J2_fr (fun k => by rw [am_up_other _ _ _ _ _ (by decide), am_up_other _ _ _ _ _ (by decide)]) (fun k => by rw [am_up_other _ _ _ _ _ (by decide), am_up_other _ _ _ _ _ (by decide)]) hj.2.2⟩
theorem ab_arr {o : Nat} {V : ab_V} (ha : ab_isA ab_tab o = true) (hv : ab_hi ab_tab o 0 = V) (q : Nat) : ab_hi ab_tab o q = V := (ab_hi_arr ha q).trans hv
section ABX
variable {X : am_H → Prop}
-- AirBed.putFour
theorem ab_h66 (hX : ab_XF X) : ab_Con ab_tab (ab_JX X) ab_s66 := ab_con (M := am_m16) (cl := []) (mdo := [(0, 2), (1, 0)]) rfl (ab_JX_fr hX rfl) (fun _ h => absurd h List.not_mem_nil) ab_q66
-- AirBed.feed
theorem ab_h0 (hX : ab_XF X) : ab_Con ab_tab (ab_JX X) ab_s0 := ab_con (M := am_m15) (cl := [ab_s66]) (mdo := []) rfl (ab_JX_fr hX rfl) (List.forall_mem_cons.mpr ⟨ab_h66 hX, fun _ h => absurd h List.not_mem_nil⟩) ab_q0
-- AirBed$Laws.clear
theorem ab_h69 (hX : ab_XF X) : ab_Con ab_tab (ab_JX X) ab_s69 := ab_con (M := am_m5) (cl := []) (mdo := [(32, 1), (32, 2), (35, 0), (36, 0), (37, 0)]) rfl (ab_JX_fr hX rfl) (fun _ h => absurd h List.not_mem_nil) ab_q69
-- AirBed$Plan.clear
theorem ab_h68 (hX : ab_XF X) : ab_Con ab_tab (ab_JX X) ab_s68 := ab_con (M := am_m4) (cl := [ab_s69]) (mdo := [(23, 1), (23, 2), (23, 3), (23, 5), (23, 8), (23, 9), (23, 10), (23, 13), (23, 17), (23, 18), (23, 19)]) rfl (ab_JX_fr hX rfl) (List.forall_mem_cons.mpr ⟨ab_h69 hX, fun _ h => absurd h List.not_mem_nil⟩) ab_q68
-- AirBed$Reader.isLetter
theorem ab_h71 (hX : ab_XF X) : ab_Con ab_tab (ab_JX X) ab_s71 := ab_con (M := am_m20) (cl := []) (mdo := []) rfl (ab_JX_fr hX rfl) (fun _ h => absurd h List.not_mem_nil) ab_q71
-- AirBed$Reader.advanceWord
theorem ab_h72 (hX : ab_XF X) : ab_Con ab_tab (ab_JX X) ab_s72 := ab_con (M := am_m21) (cl := [ab_s71]) (mdo := [(44, 9), (44, 11), (44, 12)]) rfl (ab_JX_fr hX rfl) (List.forall_mem_cons.mpr ⟨ab_h71 hX, fun _ h => absurd h List.not_mem_nil⟩) ab_q72
-- AirBed$Reader.isDigit
theorem ab_h73 (hX : ab_XF X) : ab_Con ab_tab (ab_JX X) ab_s73 := ab_con (M := am_m22) (cl := []) (mdo := []) rfl (ab_JX_fr hX rfl) (fun _ h => absurd h List.not_mem_nil) ab_q73
-- AirBed$Reader.advanceNumber
theorem ab_h74 (hX : ab_XF X) : ab_Con ab_tab (ab_JX X) ab_s74 := ab_con (M := am_m23) (cl := [ab_s73]) (mdo := [(44, 9), (44, 11), (44, 12)]) rfl (ab_JX_fr hX rfl) (List.forall_mem_cons.mpr ⟨ab_h73 hX, fun _ h => absurd h List.not_mem_nil⟩) ab_q74
-- AirBed$Reader.follows
theorem ab_h76 (hX : ab_XF X) : ab_Con ab_tab (ab_JX X) ab_s76 := ab_con (M := am_m25) (cl := []) (mdo := [(44, 9)]) rfl (ab_JX_fr hX rfl) (fun _ h => absurd h List.not_mem_nil) ab_q76
-- AirBed$Reader.advanceSign
theorem ab_h75 (hX : ab_XF X) : ab_Con ab_tab (ab_JX X) ab_s75 := ab_con (M := am_m24) (cl := [ab_s76]) (mdo := [(44, 9), (44, 11), (44, 12)]) rfl (ab_JX_fr hX rfl) (List.forall_mem_cons.mpr ⟨ab_h76 hX, fun _ h => absurd h List.not_mem_nil⟩) ab_q75
-- AirBed$Reader.advance
theorem ab_h70 (hX : ab_XF X) : ab_Con ab_tab (ab_JX X) ab_s70 := ab_con (M := am_m19) (cl := [ab_s72, ab_s74, ab_s75, ab_s71, ab_s73]) (mdo := [(44, 9), (44, 10), (44, 11)]) rfl (ab_JX_fr hX rfl) (List.forall_mem_cons.mpr ⟨ab_h72 hX, List.forall_mem_cons.mpr ⟨ab_h74 hX, List.forall_mem_cons.mpr ⟨ab_h75 hX, List.forall_mem_cons.mpr ⟨ab_h71 hX, List.forall_mem_cons.mpr ⟨ab_h73 hX, fun _ h => absurd h List.not_mem_nil⟩⟩⟩⟩⟩) ab_q70
-- AirBed$Reader.fail
theorem ab_h88 (hX : ab_XF X) : ab_Con ab_tab (ab_JX X) ab_s88 := ab_con (M := am_m29) (cl := []) (mdo := [(44, 2), (44, 3)]) rfl (ab_JX_fr hX rfl) (fun _ h => absurd h List.not_mem_nil) ab_q88
-- AirBed$Reader.tellOnce
theorem ab_h89 (hX : ab_XF X) : ab_Con ab_tab (ab_JX X) ab_s89 := ab_con (M := am_m28) (cl := [ab_s70, ab_s88]) (mdo := [(44, 8)]) rfl (ab_JX_fr hX rfl) (List.forall_mem_cons.mpr ⟨ab_h70 hX, List.forall_mem_cons.mpr ⟨ab_h88 hX, fun _ h => absurd h List.not_mem_nil⟩⟩) ab_q89
-- AirBed$Reader.readNumber
theorem ab_h90 (hX : ab_XF X) : ab_Con ab_tab (ab_JX X) ab_s90 := ab_con (M := am_m30) (cl := [ab_s70, ab_s88]) (mdo := []) rfl (ab_JX_fr hX rfl) (List.forall_mem_cons.mpr ⟨ab_h70 hX, List.forall_mem_cons.mpr ⟨ab_h88 hX, fun _ h => absurd h List.not_mem_nil⟩⟩) ab_q90
-- AirBed$Reader.readNumber
theorem ab_h121 (hX : ab_XF X) : ab_Con ab_tab (ab_JX X) ab_s121 := ab_con (M := am_m30) (cl := [ab_s70, ab_s88]) (mdo := []) rfl (ab_JX_fr hX rfl) (List.forall_mem_cons.mpr ⟨ab_h70 hX, List.forall_mem_cons.mpr ⟨ab_h88 hX, fun _ h => absurd h List.not_mem_nil⟩⟩) ab_q121
-- AirBed$Reader.readBed
theorem ab_h79 (hX : ab_XF X) : ab_Con ab_tab (ab_JX X) ab_s79 := ab_con (M := am_m27) (cl := [ab_s90, ab_s89, ab_s121]) (mdo := [(2, 1), (2, 2), (23, 1), (23, 2)]) rfl (ab_JX_fr hX rfl) (List.forall_mem_cons.mpr ⟨ab_h90 hX, List.forall_mem_cons.mpr ⟨ab_h89 hX, List.forall_mem_cons.mpr ⟨ab_h121 hX, fun _ h => absurd h List.not_mem_nil⟩⟩⟩) ab_q79
-- AirBed$Reader.readNumber
theorem ab_h93 (hX : ab_XF X) : ab_Con ab_tab (ab_JX X) ab_s93 := ab_con (M := am_m30) (cl := [ab_s70, ab_s88]) (mdo := []) rfl (ab_JX_fr hX rfl) (List.forall_mem_cons.mpr ⟨ab_h70 hX, List.forall_mem_cons.mpr ⟨ab_h88 hX, fun _ h => absurd h List.not_mem_nil⟩⟩) ab_q93
-- AirBed$Reader.isOwnWord
theorem ab_h99 (hX : ab_XF X) : ab_Con ab_tab (ab_JX X) ab_s99 := ab_con (M := am_m33) (cl := [ab_s88]) (mdo := []) rfl (ab_JX_fr hX rfl) (List.forall_mem_cons.mpr ⟨ab_h88 hX, fun _ h => absurd h List.not_mem_nil⟩) ab_q99
-- AirBed$Plan.blowerNamed
theorem ab_h100 (hX : ab_XF X) : ab_Con ab_tab (ab_JX X) ab_s100 := ab_con (M := am_m34) (cl := []) (mdo := []) rfl (ab_JX_fr hX rfl) (fun _ h => absurd h List.not_mem_nil) ab_q100
-- AirBed$Reader.readNumber
theorem ab_h101 (hX : ab_XF X) : ab_Con ab_tab (ab_JX X) ab_s101 := ab_con (M := am_m30) (cl := [ab_s70, ab_s88]) (mdo := []) rfl (ab_JX_fr hX rfl) (List.forall_mem_cons.mpr ⟨ab_h70 hX, List.forall_mem_cons.mpr ⟨ab_h88 hX, fun _ h => absurd h List.not_mem_nil⟩⟩) ab_q101
-- AirBed$Reader.readNumber
theorem ab_h102 (hX : ab_XF X) : ab_Con ab_tab (ab_JX X) ab_s102 := ab_con (M := am_m30) (cl := [ab_s70, ab_s88]) (mdo := []) rfl (ab_JX_fr hX rfl) (List.forall_mem_cons.mpr ⟨ab_h70 hX, List.forall_mem_cons.mpr ⟨ab_h88 hX, fun _ h => absurd h List.not_mem_nil⟩⟩) ab_q102
-- AirBed$Reader.readNumber
theorem ab_h103 (hX : ab_XF X) : ab_Con ab_tab (ab_JX X) ab_s103 := ab_con (M := am_m30) (cl := [ab_s70, ab_s88]) (mdo := []) rfl (ab_JX_fr hX rfl) (List.forall_mem_cons.mpr ⟨ab_h70 hX, List.forall_mem_cons.mpr ⟨ab_h88 hX, fun _ h => absurd h List.not_mem_nil⟩⟩) ab_q103
-- AirBed$Reader.readNumber
theorem ab_h104 (hX : ab_XF X) : ab_Con ab_tab (ab_JX X) ab_s104 := ab_con (M := am_m30) (cl := [ab_s70, ab_s88]) (mdo := []) rfl (ab_JX_fr hX rfl) (List.forall_mem_cons.mpr ⟨ab_h70 hX, List.forall_mem_cons.mpr ⟨ab_h88 hX, fun _ h => absurd h List.not_mem_nil⟩⟩) ab_q104
-- AirBed$Reader.readNumber
theorem ab_h105 (hX : ab_XF X) : ab_Con ab_tab (ab_JX X) ab_s105 := ab_con (M := am_m30) (cl := [ab_s70, ab_s88]) (mdo := []) rfl (ab_JX_fr hX rfl) (List.forall_mem_cons.mpr ⟨ab_h70 hX, List.forall_mem_cons.mpr ⟨ab_h88 hX, fun _ h => absurd h List.not_mem_nil⟩⟩) ab_q105
-- AirBed$Reader.tellOneMore
theorem ab_h123 (hX : ab_XF X) : ab_Con ab_tab (ab_JX X) ab_s123 := ab_con (M := am_m32) (cl := [ab_s70, ab_s88]) (mdo := []) rfl (ab_JX_fr hX rfl) (List.forall_mem_cons.mpr ⟨ab_h70 hX, List.forall_mem_cons.mpr ⟨ab_h88 hX, fun _ h => absurd h List.not_mem_nil⟩⟩) ab_q123
-- AirBed$Plan.blowerNamed
theorem ab_h136 (hX : ab_XF X) : ab_Con ab_tab (ab_JX X) ab_s136 := ab_con (M := am_m34) (cl := []) (mdo := []) rfl (ab_JX_fr hX rfl) (fun _ h => absurd h List.not_mem_nil) ab_q136
-- AirBed$Reader.readBlower
theorem ab_h80 (hX : ab_XF X) : ab_Con ab_tab (ab_JX X) ab_s80 := ab_con (M := am_m31) (cl := [ab_s99, ab_s93, ab_s101, ab_s102, ab_s103, ab_s104, ab_s105, ab_s70, ab_s88, ab_s123, ab_s100, ab_s136]) (mdo := [(2, 3), (19, 1), (19, 2), (19, 3), (19, 4), (19, 5), (19, 6), (19, 7), (19, 8), (20, 1), (20, 2), (20, 3), (20, 4), (20, 5), (20, 6), (20, 7), (20, 8), (21, 1), (21, 2), (21, 3), (21, 4), (21, 5), (21, 6), (21, 7), (21, 8), (22, 1), (22, 2), (22, 3), (22, 4), (22, 5), (22, 6), (22, 7), (22, 8), (23, 3), (40, 1), (40, 2), (40, 3), (40, 4), (40, 5), (40, 6), (40, 7), (40, 8), (41, 1), (41, 2), (41, 3), (41, 4), (41, 5), (41, 6), (41, 7), (41, 8), (42, 1), (42, 2), (42, 3), (42, 4), (42, 5), (42, 6), (42, 7), (42, 8), (43, 1), (43, 2), (43, 3), (43, 4), (43, 5), (43, 6), (43, 7), (43, 8)]) rfl (ab_JX_fr hX rfl) (List.forall_mem_cons.mpr ⟨ab_h99 hX, List.forall_mem_cons.mpr ⟨ab_h93 hX, List.forall_mem_cons.mpr ⟨ab_h101 hX, List.forall_mem_cons.mpr ⟨ab_h102 hX, List.forall_mem_cons.mpr ⟨ab_h103 hX, List.forall_mem_cons.mpr ⟨ab_h104 hX, List.forall_mem_cons.mpr ⟨ab_h105 hX, List.forall_mem_cons.mpr ⟨ab_h70 hX, List.forall_mem_cons.mpr ⟨ab_h88 hX, List.forall_mem_cons.mpr ⟨ab_h123 hX, List.forall_mem_cons.mpr ⟨ab_h100 hX, List.forall_mem_cons.mpr ⟨ab_h136 hX, fun _ h => absurd h List.not_mem_nil⟩⟩⟩⟩⟩⟩⟩⟩⟩⟩⟩⟩) ab_q80
-- AirBed$Reader.tellOneMore
theorem ab_h128 (hX : ab_XF X) : ab_Con ab_tab (ab_JX X) ab_s128 := ab_con (M := am_m32) (cl := [ab_s70, ab_s88]) (mdo := []) rfl (ab_JX_fr hX rfl) (List.forall_mem_cons.mpr ⟨ab_h70 hX, List.forall_mem_cons.mpr ⟨ab_h88 hX, fun _ h => absurd h List.not_mem_nil⟩⟩) ab_q128
-- AirBed$Reader.readTurn
theorem ab_h81 (hX : ab_XF X) : ab_Con ab_tab (ab_JX X) ab_s81 := ab_con (M := am_m35) (cl := [ab_s99, ab_s102, ab_s70, ab_s88, ab_s128, ab_s100, ab_s136]) (mdo := [(2, 5), (4, 0), (5, 0), (23, 5), (25, 0), (26, 0)]) rfl (ab_JX_fr hX rfl) (List.forall_mem_cons.mpr ⟨ab_h99 hX, List.forall_mem_cons.mpr ⟨ab_h102 hX, List.forall_mem_cons.mpr ⟨ab_h70 hX, List.forall_mem_cons.mpr ⟨ab_h88 hX, List.forall_mem_cons.mpr ⟨ab_h128 hX, List.forall_mem_cons.mpr ⟨ab_h100 hX, List.forall_mem_cons.mpr ⟨ab_h136 hX, fun _ h => absurd h List.not_mem_nil⟩⟩⟩⟩⟩⟩⟩) ab_q81
-- AirBed$Reader.readPump
theorem ab_h82 (hX : ab_XF X) : ab_Con ab_tab (ab_JX X) ab_s82 := ab_con (M := am_m36) (cl := [ab_s93, ab_s89]) (mdo := [(2, 8), (2, 9), (23, 8), (23, 9)]) rfl (ab_JX_fr hX rfl) (List.forall_mem_cons.mpr ⟨ab_h93 hX, List.forall_mem_cons.mpr ⟨ab_h89 hX, fun _ h => absurd h List.not_mem_nil⟩⟩) ab_q82
-- AirBed$Reader.tellOneMore
theorem ab_h124 (hX : ab_XF X) : ab_Con ab_tab (ab_JX X) ab_s124 := ab_con (M := am_m32) (cl := [ab_s70, ab_s88]) (mdo := []) rfl (ab_JX_fr hX rfl) (List.forall_mem_cons.mpr ⟨ab_h70 hX, List.forall_mem_cons.mpr ⟨ab_h88 hX, fun _ h => absurd h List.not_mem_nil⟩⟩) ab_q124
-- AirBed$Reader.readLeak
theorem ab_h83 (hX : ab_XF X) : ab_Con ab_tab (ab_JX X) ab_s83 := ab_con (M := am_m37) (cl := [ab_s93, ab_s104, ab_s124]) (mdo := [(2, 10), (6, 0), (7, 0), (23, 10), (27, 0), (28, 0)]) rfl (ab_JX_fr hX rfl) (List.forall_mem_cons.mpr ⟨ab_h93 hX, List.forall_mem_cons.mpr ⟨ab_h104 hX, List.forall_mem_cons.mpr ⟨ab_h124 hX, fun _ h => absurd h List.not_mem_nil⟩⟩⟩) ab_q83
-- AirBed$Plan.trialNamed
theorem ab_h106 (hX : ab_XF X) : ab_Con ab_tab (ab_JX X) ab_s106 := ab_con (M := am_m39) (cl := []) (mdo := []) rfl (ab_JX_fr hX rfl) (fun _ h => absurd h List.not_mem_nil) ab_q106
-- AirBed$Reader.readNumber
theorem ab_h107 (hX : ab_XF X) : ab_Con ab_tab (ab_JX X) ab_s107 := ab_con (M := am_m30) (cl := [ab_s70, ab_s88]) (mdo := []) rfl (ab_JX_fr hX rfl) (List.forall_mem_cons.mpr ⟨ab_h70 hX, List.forall_mem_cons.mpr ⟨ab_h88 hX, fun _ h => absurd h List.not_mem_nil⟩⟩) ab_q107
-- AirBed$Reader.tellOneMore
theorem ab_h125 (hX : ab_XF X) : ab_Con ab_tab (ab_JX X) ab_s125 := ab_con (M := am_m32) (cl := [ab_s70, ab_s88]) (mdo := []) rfl (ab_JX_fr hX rfl) (List.forall_mem_cons.mpr ⟨ab_h70 hX, List.forall_mem_cons.mpr ⟨ab_h88 hX, fun _ h => absurd h List.not_mem_nil⟩⟩) ab_q125
-- AirBed$Plan.trialNamed
theorem ab_h137 (hX : ab_XF X) : ab_Con ab_tab (ab_JX X) ab_s137 := ab_con (M := am_m39) (cl := []) (mdo := []) rfl (ab_JX_fr hX rfl) (fun _ h => absurd h List.not_mem_nil) ab_q137
-- AirBed$Reader.readTrial
theorem ab_h84 (hX : ab_XF X) : ab_Con ab_tab (ab_JX X) ab_s84 := ab_con (M := am_m38) (cl := [ab_s99, ab_s107, ab_s93, ab_s70, ab_s125, ab_s88, ab_s106, ab_s137]) (mdo := [(2, 13), (8, 0), (9, 0), (10, 0), (23, 13), (29, 0), (30, 0), (31, 0)]) rfl (ab_JX_fr hX rfl) (List.forall_mem_cons.mpr ⟨ab_h99 hX, List.forall_mem_cons.mpr ⟨ab_h107 hX, List.forall_mem_cons.mpr ⟨ab_h93 hX, List.forall_mem_cons.mpr ⟨ab_h70 hX, List.forall_mem_cons.mpr ⟨ab_h125 hX, List.forall_mem_cons.mpr ⟨ab_h88 hX, List.forall_mem_cons.mpr ⟨ab_h106 hX, List.forall_mem_cons.mpr ⟨ab_h137 hX, fun _ h => absurd h List.not_mem_nil⟩⟩⟩⟩⟩⟩⟩⟩) ab_q84
-- AirBed$Reader.readNumber
theorem ab_h96 (hX : ab_XF X) : ab_Con ab_tab (ab_JX X) ab_s96 := ab_con (M := am_m30) (cl := [ab_s70, ab_s88]) (mdo := []) rfl (ab_JX_fr hX rfl) (List.forall_mem_cons.mpr ⟨ab_h70 hX, List.forall_mem_cons.mpr ⟨ab_h88 hX, fun _ h => absurd h List.not_mem_nil⟩⟩) ab_q96
-- AirBed$Reader.readSlip
theorem ab_h85 (hX : ab_XF X) : ab_Con ab_tab (ab_JX X) ab_s85 := ab_con (M := am_m40) (cl := [ab_s96, ab_s89]) (mdo := [(2, 17), (23, 17)]) rfl (ab_JX_fr hX rfl) (List.forall_mem_cons.mpr ⟨ab_h96 hX, List.forall_mem_cons.mpr ⟨ab_h89 hX, fun _ h => absurd h List.not_mem_nil⟩⟩) ab_q85
-- AirBed$Reader.readNumber
theorem ab_h97 (hX : ab_XF X) : ab_Con ab_tab (ab_JX X) ab_s97 := ab_con (M := am_m30) (cl := [ab_s70, ab_s88]) (mdo := []) rfl (ab_JX_fr hX rfl) (List.forall_mem_cons.mpr ⟨ab_h70 hX, List.forall_mem_cons.mpr ⟨ab_h88 hX, fun _ h => absurd h List.not_mem_nil⟩⟩) ab_q97
-- AirBed$Reader.readSeed
theorem ab_h86 (hX : ab_XF X) : ab_Con ab_tab (ab_JX X) ab_s86 := ab_con (M := am_m41) (cl := [ab_s97, ab_s89]) (mdo := [(2, 18), (23, 18)]) rfl (ab_JX_fr hX rfl) (List.forall_mem_cons.mpr ⟨ab_h97 hX, List.forall_mem_cons.mpr ⟨ab_h89 hX, fun _ h => absurd h List.not_mem_nil⟩⟩) ab_q86
-- AirBed$Laws.begin
theorem ab_h98 (hX : ab_XF X) : ab_Con ab_tab (ab_JX X) ab_s98 := ab_con (M := am_m43) (cl := []) (mdo := [(35, 0)]) rfl (ab_JX_fr hX rfl) (fun _ h => absurd h List.not_mem_nil) ab_q98
-- AirBed$Reader.isMark
theorem ab_h111 (hX : ab_XF X) : ab_Con ab_tab (ab_JX X) ab_s111 := ab_con (M := am_m45) (cl := []) (mdo := []) rfl (ab_JX_fr hX rfl) (fun _ h => absurd h List.not_mem_nil) ab_q111
-- AirBed$Reader.hold
theorem ab_h113 (hX : ab_XF X) : ab_Con ab_tab (ab_JX X) ab_s113 := ab_con (M := am_m50) (cl := []) (mdo := [(44, 14), (47, 0)]) rfl (ab_JX_fr hX rfl) (fun _ h => absurd h List.not_mem_nil) ab_q113
-- AirBed$Reader.readValue
theorem ab_h108 (hX : ab_XF X) : ab_Con ab_tab (ab_JX X) ab_s108 := ab_con (M := am_m51) (cl := [ab_s70, ab_s88, ab_s111, ab_s113]) (mdo := [(44, 15)]) rfl (ab_JX_fr hX rfl) (List.forall_mem_cons.mpr ⟨ab_h70 hX, List.forall_mem_cons.mpr ⟨ab_h88 hX, List.forall_mem_cons.mpr ⟨ab_h111 hX, List.forall_mem_cons.mpr ⟨ab_h113 hX, fun _ h => absurd h List.not_mem_nil⟩⟩⟩⟩) ab_q108
-- AirBed$Reader.countKnot
theorem ab_h112 (hX : ab_XF X) : ab_Con ab_tab (ab_JX X) ab_s112 := ab_con (M := am_m49) (cl := [ab_s88]) (mdo := [(11, 1), (32, 1)]) rfl (ab_JX_fr hX rfl) (List.forall_mem_cons.mpr ⟨ab_h88 hX, fun _ h => absurd h List.not_mem_nil⟩) ab_q112
-- AirBed$Laws.put
theorem ab_h115 (hX : ab_XF X) : ab_Con ab_tab (ab_JX X) ab_s115 := ab_conH (M := am_m48) (cl := []) (mdo := [(32, 2)]) (hs := [4]) rfl (ab_JX_fr hX rfl) (fun _ h => absurd h List.not_mem_nil) (fun as h0 _ t ht => (List.mem_singleton.mp ht) ▸ ab_put_hole hX (o := 32) (a := 33) (b := 34) (lo := 0) (hi := 0) (lv := (-2147483648)) (uv := 2147483647) (by decide +kernel) (by decide +kernel) (by decide +kernel) (by decide) (by decide) (by decide +kernel) (by decide +kernel) (ab_arr (o := 33) (by decide +kernel) (by decide +kernel)) (ab_arr (o := 34) (by decide +kernel) (by decide +kernel)) (fun op v h1 h2 _ _ e => by subst e; exact absurd h2 (by decide)) ab_Jc_p33 (by decide +kernel) (by decide +kernel) rfl) ab_q115
-- AirBed$Laws.put
theorem ab_h134 (hX : ab_XF X) : ab_Con ab_tab (ab_JX X) ab_s134 := ab_conH (M := am_m48) (cl := []) (mdo := [(11, 2)]) (hs := [4]) rfl (ab_JX_fr hX rfl) (fun _ h => absurd h List.not_mem_nil) (fun as h0 _ t ht => (List.mem_singleton.mp ht) ▸ ab_put_hole hX (o := 11) (a := 12) (b := 13) (lo := 0) (hi := 0) (lv := (-2147483648)) (uv := 2147483647) (by decide +kernel) (by decide +kernel) (by decide +kernel) (by decide) (by decide) (by decide +kernel) (by decide +kernel) (ab_arr (o := 12) (by decide +kernel) (by decide +kernel)) (ab_arr (o := 13) (by decide +kernel) (by decide +kernel)) (fun op v h1 h2 _ _ e => by subst e; exact absurd h2 (by decide)) ab_Jc_p12 (by decide +kernel) (by decide +kernel) rfl) ab_q134
-- AirBed$Reader.readValue
theorem ab_h109 (hX : ab_XF X) : ab_Con ab_tab (ab_JX X) ab_s109 := ab_con (M := am_m51) (cl := [ab_s112, ab_s70, ab_s88, ab_s111, ab_s134, ab_s115, ab_s113]) (mdo := [(44, 15)]) rfl (ab_JX_fr hX rfl) (List.forall_mem_cons.mpr ⟨ab_h112 hX, List.forall_mem_cons.mpr ⟨ab_h70 hX, List.forall_mem_cons.mpr ⟨ab_h88 hX, List.forall_mem_cons.mpr ⟨ab_h111 hX, List.forall_mem_cons.mpr ⟨ab_h134 hX, List.forall_mem_cons.mpr ⟨ab_h115 hX, List.forall_mem_cons.mpr ⟨ab_h113 hX, fun _ h => absurd h List.not_mem_nil⟩⟩⟩⟩⟩⟩⟩) ab_q109
-- AirBed$Laws.put
theorem ab_h114 (hX : ab_XF X) : ab_Con ab_tab (ab_JX X) ab_s114 := ab_conH (M := am_m48) (cl := []) (mdo := [(32, 2)]) (hs := [4]) rfl (ab_JX_fr hX rfl) (fun _ h => absurd h List.not_mem_nil) (fun as h0 _ t ht => (List.mem_singleton.mp ht) ▸ ab_put_hole hX (o := 32) (a := 33) (b := 34) (lo := 1) (hi := 1) (lv := 0) (uv := 5) (by decide +kernel) (by decide +kernel) (by decide +kernel) (by decide) (by decide) (by decide +kernel) (by decide +kernel) (ab_arr (o := 33) (by decide +kernel) (by decide +kernel)) (ab_arr (o := 34) (by decide +kernel) (by decide +kernel)) (fun op v _ _ h3 h4 _ => ⟨h3, h4⟩) ab_Jc_p33 (by decide +kernel) (by decide +kernel) rfl) ab_q114
-- AirBed$Laws.put
theorem ab_h135 (hX : ab_XF X) : ab_Con ab_tab (ab_JX X) ab_s135 := ab_conH (M := am_m48) (cl := []) (mdo := [(11, 2)]) (hs := [4]) rfl (ab_JX_fr hX rfl) (fun _ h => absurd h List.not_mem_nil) (fun as h0 _ t ht => (List.mem_singleton.mp ht) ▸ ab_put_hole hX (o := 11) (a := 12) (b := 13) (lo := 1) (hi := 1) (lv := 0) (uv := 5) (by decide +kernel) (by decide +kernel) (by decide +kernel) (by decide) (by decide) (by decide +kernel) (by decide +kernel) (ab_arr (o := 12) (by decide +kernel) (by decide +kernel)) (ab_arr (o := 13) (by decide +kernel) (by decide +kernel)) (fun op v _ _ h3 h4 _ => ⟨h3, h4⟩) ab_Jc_p12 (by decide +kernel) (by decide +kernel) rfl) ab_q135
-- AirBed$Reader.readValue
theorem ab_h110 (hX : ab_XF X) : ab_Con ab_tab (ab_JX X) ab_s110 := ab_con (M := am_m51) (cl := [ab_s112, ab_s70, ab_s88, ab_s135, ab_s114, ab_s111, ab_s113]) (mdo := [(44, 15)]) rfl (ab_JX_fr hX rfl) (List.forall_mem_cons.mpr ⟨ab_h112 hX, List.forall_mem_cons.mpr ⟨ab_h70 hX, List.forall_mem_cons.mpr ⟨ab_h88 hX, List.forall_mem_cons.mpr ⟨ab_h135 hX, List.forall_mem_cons.mpr ⟨ab_h114 hX, List.forall_mem_cons.mpr ⟨ab_h111 hX, List.forall_mem_cons.mpr ⟨ab_h113 hX, fun _ h => absurd h List.not_mem_nil⟩⟩⟩⟩⟩⟩⟩) ab_q110
-- AirBed$Reader.rankOf
theorem ab_h118 (hX : ab_XF X) : ab_Con ab_tab (ab_JX X) ab_s118 := ab_con (M := am_m47) (cl := []) (mdo := []) rfl (ab_JX_fr hX rfl) (fun _ h => absurd h List.not_mem_nil) ab_q118
-- AirBed$Laws.put
theorem ab_h119 (hX : ab_XF X) : ab_Con ab_tab (ab_JX X) ab_s119 := ab_conH (M := am_m48) (cl := []) (mdo := [(32, 2)]) (hs := [4]) rfl (ab_JX_fr hX rfl) (fun _ h => absurd h List.not_mem_nil) (fun as h0 _ t ht => (List.mem_singleton.mp ht) ▸ ab_put_hole hX (o := 32) (a := 33) (b := 34) (lo := (-2147483648)) (hi := 2147483647) (lv := 0) (uv := 0) (by decide +kernel) (by decide +kernel) (by decide +kernel) (by decide) (by decide) (by decide +kernel) (by decide +kernel) (ab_arr (o := 33) (by decide +kernel) (by decide +kernel)) (ab_arr (o := 34) (by decide +kernel) (by decide +kernel)) (fun op v _ _ h3 h4 _ => by omega) ab_Jc_p33 (by decide +kernel) (by decide +kernel) rfl) ab_q119
-- AirBed$Laws.put
theorem ab_h133 (hX : ab_XF X) : ab_Con ab_tab (ab_JX X) ab_s133 := ab_conH (M := am_m48) (cl := []) (mdo := [(11, 2)]) (hs := [4]) rfl (ab_JX_fr hX rfl) (fun _ h => absurd h List.not_mem_nil) (fun as h0 _ t ht => (List.mem_singleton.mp ht) ▸ ab_put_hole hX (o := 11) (a := 12) (b := 13) (lo := (-2147483648)) (hi := 2147483647) (lv := 0) (uv := 0) (by decide +kernel) (by decide +kernel) (by decide +kernel) (by decide) (by decide) (by decide +kernel) (by decide +kernel) (ab_arr (o := 12) (by decide +kernel) (by decide +kernel)) (ab_arr (o := 13) (by decide +kernel) (by decide +kernel)) (fun op v _ _ h3 h4 _ => by omega) ab_Jc_p12 (by decide +kernel) (by decide +kernel) rfl) ab_q133
-- AirBed$Reader.settleDownTo
theorem ab_h117 (hX : ab_XF X) : ab_Con ab_tab (ab_JX X) ab_s117 := ab_con (M := am_m46) (cl := [ab_s118, ab_s133, ab_s119]) (mdo := [(44, 14)]) rfl (ab_JX_fr hX rfl) (List.forall_mem_cons.mpr ⟨ab_h118 hX, List.forall_mem_cons.mpr ⟨ab_h133 hX, List.forall_mem_cons.mpr ⟨ab_h119 hX, fun _ h => absurd h List.not_mem_nil⟩⟩⟩) ab_q117
-- AirBed$Reader.readJoin
theorem ab_h116 (hX : ab_XF X) : ab_Con ab_tab (ab_JX X) ab_s116 := ab_con (M := am_m44) (cl := [ab_s112, ab_s70, ab_s88, ab_s111, ab_s118, ab_s113, ab_s117]) (mdo := [(44, 14), (44, 15)]) rfl (ab_JX_fr hX rfl) (List.forall_mem_cons.mpr ⟨ab_h112 hX, List.forall_mem_cons.mpr ⟨ab_h70 hX, List.forall_mem_cons.mpr ⟨ab_h88 hX, List.forall_mem_cons.mpr ⟨ab_h111 hX, List.forall_mem_cons.mpr ⟨ab_h118 hX, List.forall_mem_cons.mpr ⟨ab_h113 hX, List.forall_mem_cons.mpr ⟨ab_h117 hX, fun _ h => absurd h List.not_mem_nil⟩⟩⟩⟩⟩⟩⟩) ab_q116
-- AirBed$Laws.end
theorem ab_h120 (hX : ab_XF X) : ab_Con ab_tab (ab_JX X) ab_s120 := ab_con (M := am_m52) (cl := []) (mdo := [(36, 0), (37, 0)]) rfl (ab_JX_fr hX rfl) (fun _ h => absurd h List.not_mem_nil) ab_q120
-- AirBed$Laws.begin
theorem ab_h138 (hX : ab_XF X) : ab_Con ab_tab (ab_JX X) ab_s138 := ab_con (M := am_m43) (cl := []) (mdo := [(14, 0)]) rfl (ab_JX_fr hX rfl) (fun _ h => absurd h List.not_mem_nil) ab_q138
-- AirBed$Laws.end
theorem ab_h139 (hX : ab_XF X) : ab_Con ab_tab (ab_JX X) ab_s139 := ab_con (M := am_m52) (cl := []) (mdo := [(15, 0), (16, 0)]) rfl (ab_JX_fr hX rfl) (fun _ h => absurd h List.not_mem_nil) ab_q139
-- AirBed$Reader.readLaw
theorem ab_h87 (hX : ab_XF X) : ab_Con ab_tab (ab_JX X) ab_s87 := ab_con (M := am_m42) (cl := [ab_s116, ab_s70, ab_s110, ab_s108, ab_s109, ab_s138, ab_s98, ab_s139, ab_s120, ab_s88, ab_s117]) (mdo := [(44, 8), (44, 14), (44, 15)]) rfl (ab_JX_fr hX rfl) (List.forall_mem_cons.mpr ⟨ab_h116 hX, List.forall_mem_cons.mpr ⟨ab_h70 hX, List.forall_mem_cons.mpr ⟨ab_h110 hX, List.forall_mem_cons.mpr ⟨ab_h108 hX, List.forall_mem_cons.mpr ⟨ab_h109 hX, List.forall_mem_cons.mpr ⟨ab_h138 hX, List.forall_mem_cons.mpr ⟨ab_h98 hX, List.forall_mem_cons.mpr ⟨ab_h139 hX, List.forall_mem_cons.mpr ⟨ab_h120 hX, List.forall_mem_cons.mpr ⟨ab_h88 hX, List.forall_mem_cons.mpr ⟨ab_h117 hX, fun _ h => absurd h List.not_mem_nil⟩⟩⟩⟩⟩⟩⟩⟩⟩⟩⟩) ab_q87
-- AirBed$Reader.readLine
theorem ab_h77 (hX : ab_XF X) : ab_Con ab_tab (ab_JX X) ab_s77 := ab_con (M := am_m26) (cl := [ab_s79, ab_s80, ab_s81, ab_s82, ab_s83, ab_s84, ab_s85, ab_s86, ab_s87, ab_s88]) (mdo := []) rfl (ab_JX_fr hX rfl) (List.forall_mem_cons.mpr ⟨ab_h79 hX, List.forall_mem_cons.mpr ⟨ab_h80 hX, List.forall_mem_cons.mpr ⟨ab_h81 hX, List.forall_mem_cons.mpr ⟨ab_h82 hX, List.forall_mem_cons.mpr ⟨ab_h83 hX, List.forall_mem_cons.mpr ⟨ab_h84 hX, List.forall_mem_cons.mpr ⟨ab_h85 hX, List.forall_mem_cons.mpr ⟨ab_h86 hX, List.forall_mem_cons.mpr ⟨ab_h87 hX, List.forall_mem_cons.mpr ⟨ab_h88 hX, fun _ h => absurd h List.not_mem_nil⟩⟩⟩⟩⟩⟩⟩⟩⟩⟩) ab_q77
-- AirBed.drawAfter
theorem ab_h126 (hX : ab_XF X) : ab_Con ab_tab (ab_JX X) ab_s126 := ab_con (M := am_m55) (cl := []) (mdo := []) rfl (ab_JX_fr hX rfl) (fun _ h => absurd h List.not_mem_nil) ab_q126
-- AirBed.numberOf
theorem ab_h127 (hX : ab_XF X) : ab_Con ab_tab (ab_JX X) ab_s127 := ab_con (M := am_m56) (cl := []) (mdo := []) rfl (ab_JX_fr hX rfl) (fun _ h => absurd h List.not_mem_nil) ab_q127
-- AirBed$Plan.drawLeak
theorem ab_h78 (hX : ab_XF X) : ab_Con ab_tab (ab_JX X) ab_s78 := ab_con (M := am_m54) (cl := [ab_s126, ab_s127]) (mdo := [(23, 19)]) rfl (ab_JX_fr hX rfl) (List.forall_mem_cons.mpr ⟨ab_h126 hX, List.forall_mem_cons.mpr ⟨ab_h127 hX, fun _ h => absurd h List.not_mem_nil⟩⟩) ab_q78
-- AirBed$Reader.readEnd
theorem ab_h122 (hX : ab_XF X) : ab_Con ab_tab (ab_JX X) ab_s122 := ab_con (M := am_m53) (cl := [ab_s70, ab_s88, ab_s111]) (mdo := [(44, 1)]) rfl (ab_JX_fr hX rfl) (List.forall_mem_cons.mpr ⟨ab_h70 hX, List.forall_mem_cons.mpr ⟨ab_h88 hX, List.forall_mem_cons.mpr ⟨ab_h111 hX, fun _ h => absurd h List.not_mem_nil⟩⟩⟩) ab_q122
-- AirBed$Reader.read
theorem ab_h67 (hX : ab_XF X) : ab_Con ab_tab (ab_JX X) ab_s67 := ab_con (M := am_m18) (cl := [ab_s77, ab_s78, ab_s122, ab_s68, ab_s70]) (mdo := [(44, 1), (44, 2), (44, 3), (44, 5), (44, 6), (44, 7), (44, 8), (44, 9)]) rfl (ab_JX_fr hX rfl) (List.forall_mem_cons.mpr ⟨ab_h77 hX, List.forall_mem_cons.mpr ⟨ab_h78 hX, List.forall_mem_cons.mpr ⟨ab_h122 hX, List.forall_mem_cons.mpr ⟨ab_h68 hX, List.forall_mem_cons.mpr ⟨ab_h70 hX, fun _ h => absurd h List.not_mem_nil⟩⟩⟩⟩⟩) ab_q67
-- AirBed$State.begin
theorem ab_h129 (hX : ab_XF X) : ab_Con ab_tab (ab_JX X) ab_s129 := ab_con (M := am_m14) (cl := []) (mdo := [(48, 1), (48, 2), (48, 3), (48, 4), (48, 5), (49, 0), (50, 0), (51, 0)]) rfl (ab_JX_fr hX rfl) (fun _ h => absurd h List.not_mem_nil) ab_q129
-- AirBed$Laws.clear
theorem ab_h140 (hX : ab_XF X) : ab_Con ab_tab (ab_JX X) ab_s140 := ab_con (M := am_m5) (cl := []) (mdo := [(11, 1), (11, 2), (14, 0), (15, 0), (16, 0)]) rfl (ab_JX_fr hX rfl) (fun _ h => absurd h List.not_mem_nil) ab_q140
-- AirBed$Plan.clear
theorem ab_h132 (hX : ab_XF X) : ab_Con ab_tab (ab_JX X) ab_s132 := ab_con (M := am_m4) (cl := [ab_s140]) (mdo := [(2, 1), (2, 2), (2, 3), (2, 5), (2, 8), (2, 9), (2, 10), (2, 13), (2, 17), (2, 18), (2, 19)]) rfl (ab_JX_fr hX rfl) (List.forall_mem_cons.mpr ⟨ab_h140 hX, fun _ h => absurd h List.not_mem_nil⟩) ab_q132
-- AirBed$Plan.drawLeak
theorem ab_h141 (hX : ab_XF X) : ab_Con ab_tab (ab_JX X) ab_s141 := ab_con (M := am_m54) (cl := [ab_s126, ab_s127]) (mdo := [(2, 19)]) rfl (ab_JX_fr hX rfl) (List.forall_mem_cons.mpr ⟨ab_h126 hX, List.forall_mem_cons.mpr ⟨ab_h127 hX, fun _ h => absurd h List.not_mem_nil⟩⟩) ab_q141
-- AirBed$Reader.read
theorem ab_h130 (hX : ab_XF X) : ab_Con ab_tab (ab_JX X) ab_s130 := ab_con (M := am_m18) (cl := [ab_s141, ab_s77, ab_s132, ab_s122, ab_s70]) (mdo := [(44, 1), (44, 2), (44, 3), (44, 5), (44, 6), (44, 7), (44, 8), (44, 9)]) rfl (ab_JX_fr hX rfl) (List.forall_mem_cons.mpr ⟨ab_h141 hX, List.forall_mem_cons.mpr ⟨ab_h77 hX, List.forall_mem_cons.mpr ⟨ab_h132 hX, List.forall_mem_cons.mpr ⟨ab_h122 hX, List.forall_mem_cons.mpr ⟨ab_h70 hX, fun _ h => absurd h List.not_mem_nil⟩⟩⟩⟩⟩) ab_q130
-- AirBed$History.clear
theorem ab_h131 (hX : ab_XF X) : ab_Con ab_tab (ab_JX X) ab_s131 := ab_con (M := am_m57) (cl := []) (mdo := [(60, 3)]) rfl (ab_JX_fr hX rfl) (fun _ h => absurd h List.not_mem_nil) ab_q131
-- AirBed$State.begin
theorem ab_h142 (hX : ab_XF X) : ab_Con ab_tab (ab_JX X) ab_s142 := ab_con (M := am_m14) (cl := []) (mdo := [(48, 1), (48, 2), (48, 3), (48, 4), (48, 5), (49, 0), (50, 0), (51, 0)]) rfl (ab_JX_fr hX rfl) (fun _ h => absurd h List.not_mem_nil) ab_q142
-- AirBed$Cheeks.clear
theorem ab_h143 (hX : ab_XF X) : ab_Con ab_tab (ab_JX X) ab_s143 := ab_con (M := am_m58) (cl := []) (mdo := [(142, 1), (142, 2)]) rfl (ab_JX_fr hX rfl) (fun _ h => absurd h List.not_mem_nil) ab_q143
-- AirBed.text
theorem ab_h2 (hX : ab_XF X) : ab_Con ab_tab (ab_JX X) ab_s2 := ab_con (M := am_m17) (cl := [ab_s143, ab_s131, ab_s129, ab_s142, ab_s130, ab_s67]) (mdo := [(0, 2), (0, 3), (0, 4), (0, 9)]) rfl (ab_JX_fr hX rfl) (List.forall_mem_cons.mpr ⟨ab_h143 hX, List.forall_mem_cons.mpr ⟨ab_h131 hX, List.forall_mem_cons.mpr ⟨ab_h129 hX, List.forall_mem_cons.mpr ⟨ab_h142 hX, List.forall_mem_cons.mpr ⟨ab_h130 hX, List.forall_mem_cons.mpr ⟨ab_h67 hX, fun _ h => absurd h List.not_mem_nil⟩⟩⟩⟩⟩⟩) ab_q2
-- AirBed.fault
theorem ab_h4 (hX : ab_XF X) : ab_Con ab_tab (ab_JX X) ab_s4 := ab_con (M := am_m59) (cl := []) (mdo := []) rfl (ab_JX_fr hX rfl) (fun _ h => absurd h List.not_mem_nil) ab_q4
-- AirBed.named
theorem ab_h6 (hX : ab_XF X) : ab_Con ab_tab (ab_JX X) ab_s6 := ab_con (M := am_m60) (cl := [ab_s100, ab_s106, ab_s136, ab_s137]) (mdo := []) rfl (ab_JX_fr hX rfl) (List.forall_mem_cons.mpr ⟨ab_h100 hX, List.forall_mem_cons.mpr ⟨ab_h106 hX, List.forall_mem_cons.mpr ⟨ab_h136 hX, List.forall_mem_cons.mpr ⟨ab_h137 hX, fun _ h => absurd h List.not_mem_nil⟩⟩⟩⟩) ab_q6
-- AirBed.isWithin
theorem ab_h149 (hX : ab_XF X) : ab_Con ab_tab (ab_JX X) ab_s149 := ab_con (M := am_m62) (cl := []) (mdo := []) rfl (ab_JX_fr hX rfl) (fun _ h => absurd h List.not_mem_nil) ab_q149
-- AirBed.isWithin
theorem ab_h150 (hX : ab_XF X) : ab_Con ab_tab (ab_JX X) ab_s150 := ab_con (M := am_m62) (cl := []) (mdo := []) rfl (ab_JX_fr hX rfl) (fun _ h => absurd h List.not_mem_nil) ab_q150
-- AirBed$State.copy
theorem ab_h153 (hX : ab_XF X) : ab_Con ab_tab (ab_JX X) ab_s153 := ab_con (M := am_m64) (cl := []) (mdo := [(149, 1), (149, 2), (149, 3), (149, 4), (149, 5), (150, 0), (151, 0), (152, 0)]) rfl (ab_JX_fr hX rfl) (fun _ h => absurd h List.not_mem_nil) ab_q153
-- AirBed$Sim.begin
theorem ab_h151 (hX : ab_XF X) : ab_Con ab_tab (ab_JX X) ab_s151 := ab_con (M := am_m63) (cl := [ab_s153]) (mdo := [(148, 1), (148, 3), (148, 4), (148, 5), (148, 6), (148, 7)]) rfl (ab_JX_fr hX rfl) (List.forall_mem_cons.mpr ⟨ab_h153 hX, fun _ h => absurd h List.not_mem_nil⟩) ab_q151
-- AirBed$Sim.begin
theorem ab_h152 (hX : ab_XF X) : ab_Con ab_tab (ab_JX X) ab_s152 := ab_con (M := am_m63) (cl := [ab_s153]) (mdo := [(148, 1), (148, 3), (148, 4), (148, 5), (148, 6), (148, 7)]) rfl (ab_JX_fr hX rfl) (List.forall_mem_cons.mpr ⟨ab_h153 hX, fun _ h => absurd h List.not_mem_nil⟩) ab_q152
-- AirBed$Laws.join
theorem ab_h157 (hX : ab_XF X) : ab_Con ab_tab (ab_JX X) ab_s157 := ab_con (M := am_m67) (cl := []) (mdo := []) rfl (ab_JX_fr hX rfl) (fun _ h => absurd h List.not_mem_nil) ab_q157
-- AirBed$Laws.valueOf
theorem ab_h155 (hX : ab_XF X) : ab_Con ab_tab (ab_JX X) ab_s155 := ab_conH (M := am_m66) (cl := [ab_s157]) (mdo := [(18, 0)]) (hs := [13]) rfl (ab_JX_fr hX rfl) (List.forall_mem_cons.mpr ⟨ab_h157 hX, fun _ h => absurd h List.not_mem_nil⟩) (fun as h0 _ t ht => (List.mem_singleton.mp ht) ▸ ab_val_hole (o := 11) (a := 12) (b := 13) (nm := 17) (s := 18) (by decide +kernel) (by decide +kernel) (by decide +kernel) (by decide +kernel) (by decide +kernel) (by decide +kernel) (by decide +kernel) (by decide +kernel) (ab_arr (o := 12) (by decide +kernel) (by decide +kernel)) (ab_arr (o := 13) (by decide +kernel) (by decide +kernel)) (ab_arr (o := 17) (by decide +kernel) (by decide +kernel)) (fun h hj => hj.1) (by decide +kernel) (by decide +kernel) (by decide +kernel) (by decide +kernel)) ab_q155
-- AirBed$Laws.valueOf
theorem ab_h156 (hX : ab_XF X) : ab_Con ab_tab (ab_JX X) ab_s156 := ab_conH (M := am_m66) (cl := [ab_s157]) (mdo := [(39, 0)]) (hs := [13]) rfl (ab_JX_fr hX rfl) (List.forall_mem_cons.mpr ⟨ab_h157 hX, fun _ h => absurd h List.not_mem_nil⟩) (fun as h0 _ t ht => (List.mem_singleton.mp ht) ▸ ab_val_hole (o := 32) (a := 33) (b := 34) (nm := 38) (s := 39) (by decide +kernel) (by decide +kernel) (by decide +kernel) (by decide +kernel) (by decide +kernel) (by decide +kernel) (by decide +kernel) (by decide +kernel) (ab_arr (o := 33) (by decide +kernel) (by decide +kernel)) (ab_arr (o := 34) (by decide +kernel) (by decide +kernel)) (ab_arr (o := 38) (by decide +kernel) (by decide +kernel)) (fun h hj => hj.2.1) (by decide +kernel) (by decide +kernel) (by decide +kernel) (by decide +kernel)) ab_q156
-- AirBed$Sim.within
theorem ab_h158 (hX : ab_XF X) : ab_Con ab_tab (ab_JX X) ab_s158 := ab_con (M := am_m68) (cl := []) (mdo := []) rfl (ab_JX_fr hX rfl) (fun _ h => absurd h List.not_mem_nil) ab_q158
-- AirBed$Sim.worth
theorem ab_h154 (hX : ab_XF X) : ab_Con ab_tab (ab_JX X) ab_s154 := ab_con (M := am_m65) (cl := [ab_s155, ab_s156, ab_s158]) (mdo := [(17, 1), (17, 2), (17, 3), (17, 4), (17, 5), (17, 6), (38, 1), (38, 2), (38, 3), (38, 4), (38, 5), (38, 6)]) rfl (ab_JX_fr hX rfl) (List.forall_mem_cons.mpr ⟨ab_h155 hX, List.forall_mem_cons.mpr ⟨ab_h156 hX, List.forall_mem_cons.mpr ⟨ab_h158 hX, fun _ h => absurd h List.not_mem_nil⟩⟩⟩) ab_q154
-- AirBed.law
theorem ab_h9 (hX : ab_XF X) : ab_Con ab_tab (ab_JX X) ab_s9 := ab_con (M := am_m61) (cl := [ab_s151, ab_s152, ab_s154, ab_s149, ab_s150]) (mdo := []) rfl (ab_JX_fr hX rfl) (List.forall_mem_cons.mpr ⟨ab_h151 hX, List.forall_mem_cons.mpr ⟨ab_h152 hX, List.forall_mem_cons.mpr ⟨ab_h154 hX, List.forall_mem_cons.mpr ⟨ab_h149 hX, List.forall_mem_cons.mpr ⟨ab_h150 hX, fun _ h => absurd h List.not_mem_nil⟩⟩⟩⟩⟩) ab_q9
-- AirBed.isBlower
theorem ab_h172 (hX : ab_XF X) : ab_Con ab_tab (ab_JX X) ab_s172 := ab_con (M := am_m70) (cl := []) (mdo := []) rfl (ab_JX_fr hX rfl) (fun _ h => absurd h List.not_mem_nil) ab_q172
-- AirBed.isWithin
theorem ab_h173 (hX : ab_XF X) : ab_Con ab_tab (ab_JX X) ab_s173 := ab_con (M := am_m62) (cl := []) (mdo := []) rfl (ab_JX_fr hX rfl) (fun _ h => absurd h List.not_mem_nil) ab_q173
-- AirBed$Sim.handsOf
theorem ab_h175 (hX : ab_XF X) : ab_Con ab_tab (ab_JX X) ab_s175 := ab_con (M := am_m72) (cl := []) (mdo := []) rfl (ab_JX_fr hX rfl) (fun _ h => absurd h List.not_mem_nil) ab_q175
-- AirBed$Sim.sinceAt
theorem ab_h176 (hX : ab_XF X) : ab_Con ab_tab (ab_JX X) ab_s176 := ab_con (M := am_m73) (cl := []) (mdo := []) rfl (ab_JX_fr hX rfl) (fun _ h => absurd h List.not_mem_nil) ab_q176
-- AirBed$Sim.wouldBeDizzy
theorem ab_h174 (hX : ab_XF X) : ab_Con ab_tab (ab_JX X) ab_s174 := ab_con (M := am_m71) (cl := [ab_s175, ab_s176]) (mdo := []) rfl (ab_JX_fr hX rfl) (List.forall_mem_cons.mpr ⟨ab_h175 hX, List.forall_mem_cons.mpr ⟨ab_h176 hX, fun _ h => absurd h List.not_mem_nil⟩⟩) ab_q174
-- AirBed$State.isPatched
theorem ab_h179 (hX : ab_XF X) : ab_Con ab_tab (ab_JX X) ab_s179 := ab_con (M := am_m76) (cl := []) (mdo := []) rfl (ab_JX_fr hX rfl) (fun _ h => absurd h List.not_mem_nil) ab_q179
-- AirBed$Sim.goBy
theorem ab_h178 (hX : ab_XF X) : ab_Con ab_tab (ab_JX X) ab_s178 := ab_con (M := am_m75) (cl := [ab_s179, ab_s154, ab_s158]) (mdo := [(148, 7), (149, 1), (149, 2)]) rfl (ab_JX_fr hX rfl) (List.forall_mem_cons.mpr ⟨ab_h179 hX, List.forall_mem_cons.mpr ⟨ab_h154 hX, List.forall_mem_cons.mpr ⟨ab_h158 hX, fun _ h => absurd h List.not_mem_nil⟩⟩⟩) ab_q178
-- AirBed$Sim.handOver
theorem ab_h177 (hX : ab_XF X) : ab_Con ab_tab (ab_JX X) ab_s177 := ab_con (M := am_m74) (cl := [ab_s175, ab_s178]) (mdo := []) rfl (ab_JX_fr hX rfl) (List.forall_mem_cons.mpr ⟨ab_h175 hX, List.forall_mem_cons.mpr ⟨ab_h178 hX, fun _ h => absurd h List.not_mem_nil⟩⟩) ab_q177
-- AirBed$Blower.breathBehind
theorem ab_h213 (hX : ab_XF X) : ab_Con ab_tab (ab_JX X) ab_s213 := ab_con (M := am_m79) (cl := []) (mdo := []) rfl (ab_JX_fr hX rfl) (fun _ h => absurd h List.not_mem_nil) ab_q213
-- AirBed$Blower.breathBehind
theorem ab_h214 (hX : ab_XF X) : ab_Con ab_tab (ab_JX X) ab_s214 := ab_con (M := am_m79) (cl := []) (mdo := []) rfl (ab_JX_fr hX rfl) (fun _ h => absurd h List.not_mem_nil) ab_q214
-- AirBed$Sim.fillBy
theorem ab_h217 (hX : ab_XF X) : ab_Con ab_tab (ab_JX X) ab_s217 := ab_con (M := am_m80) (cl := [ab_s154, ab_s158]) (mdo := [(149, 1)]) rfl (ab_JX_fr hX rfl) (List.forall_mem_cons.mpr ⟨ab_h154 hX, List.forall_mem_cons.mpr ⟨ab_h158 hX, fun _ h => absurd h List.not_mem_nil⟩⟩) ab_q217
-- AirBed$Sim.since
theorem ab_h249 (hX : ab_XF X) : ab_Con ab_tab (ab_JX X) ab_s249 := ab_con (M := am_m78) (cl := [ab_s176]) (mdo := []) rfl (ab_JX_fr hX rfl) (List.forall_mem_cons.mpr ⟨ab_h176 hX, fun _ h => absurd h List.not_mem_nil⟩) ab_q249
-- AirBed$Sim.breathe
theorem ab_h254 (hX : ab_XF X) : ab_Con ab_tab (ab_JX X) ab_s254 := ab_con (M := am_m77) (cl := [ab_s249, ab_s217, ab_s178, ab_s213, ab_s214]) (mdo := [(149, 3), (150, 0), (151, 0), (152, 0)]) rfl (ab_JX_fr hX rfl) (List.forall_mem_cons.mpr ⟨ab_h249 hX, List.forall_mem_cons.mpr ⟨ab_h217 hX, List.forall_mem_cons.mpr ⟨ab_h178 hX, List.forall_mem_cons.mpr ⟨ab_h213 hX, List.forall_mem_cons.mpr ⟨ab_h214 hX, fun _ h => absurd h List.not_mem_nil⟩⟩⟩⟩⟩) ab_q254
-- AirBed$State.copy
theorem ab_h286 (hX : ab_XF X) : ab_Con ab_tab (ab_JX X) ab_s286 := ab_con (M := am_m64) (cl := []) (mdo := [(62, 1), (62, 2), (62, 3), (62, 4), (62, 5), (63, 0), (64, 0), (65, 0), (66, 1), (66, 2), (66, 3), (66, 4), (66, 5), (67, 0), (68, 0), (69, 0), (70, 1), (70, 2), (70, 3), (70, 4), (70, 5), (71, 0), (72, 0), (73, 0), (74, 1), (74, 2), (74, 3), (74, 4), (74, 5), (75, 0), (76, 0), (77, 0), (78, 1), (78, 2), (78, 3), (78, 4), (78, 5), (79, 0), (80, 0), (81, 0), (82, 1), (82, 2), (82, 3), (82, 4), (82, 5), (83, 0), (84, 0), (85, 0), (86, 1), (86, 2), (86, 3), (86, 4), (86, 5), (87, 0), (88, 0), (89, 0), (90, 1), (90, 2), (90, 3), (90, 4), (90, 5), (91, 0), (92, 0), (93, 0), (94, 1), (94, 2), (94, 3), (94, 4), (94, 5), (95, 0), (96, 0), (97, 0), (98, 1), (98, 2), (98, 3), (98, 4), (98, 5), (99, 0), (100, 0), (101, 0), (102, 1), (102, 2), (102, 3), (102, 4), (102, 5), (103, 0), (104, 0), (105, 0), (106, 1), (106, 2), (106, 3), (106, 4), (106, 5), (107, 0), (108, 0), (109, 0), (110, 1), (110, 2), (110, 3), (110, 4), (110, 5), (111, 0), (112, 0), (113, 0), (114, 1), (114, 2), (114, 3), (114, 4), (114, 5), (115, 0), (116, 0), (117, 0), (118, 1), (118, 2), (118, 3), (118, 4), (118, 5), (119, 0), (120, 0), (121, 0), (122, 1), (122, 2), (122, 3), (122, 4), (122, 5), (123, 0), (124, 0), (125, 0), (126, 1), (126, 2), (126, 3), (126, 4), (126, 5), (127, 0), (128, 0), (129, 0), (130, 1), (130, 2), (130, 3), (130, 4), (130, 5), (131, 0), (132, 0), (133, 0), (134, 1), (134, 2), (134, 3), (134, 4), (134, 5), (135, 0), (136, 0), (137, 0), (138, 1), (138, 2), (138, 3), (138, 4), (138, 5), (139, 0), (140, 0), (141, 0)]) rfl (ab_JX_fr hX rfl) (fun _ h => absurd h List.not_mem_nil) ab_q286
-- AirBed$History.push
theorem ab_h285 (hX : ab_XF X) : ab_Con ab_tab (ab_JX X) ab_s285 := ab_con (M := am_m82) (cl := [ab_s286]) (mdo := [(60, 2), (60, 3)]) rfl (ab_JX_fr hX rfl) (List.forall_mem_cons.mpr ⟨ab_h286 hX, fun _ h => absurd h List.not_mem_nil⟩) ab_q285
-- AirBed$State.copy
theorem ab_h287 (hX : ab_XF X) : ab_Con ab_tab (ab_JX X) ab_s287 := ab_con (M := am_m64) (cl := []) (mdo := [(48, 1), (48, 2), (48, 3), (48, 4), (48, 5), (49, 0), (50, 0), (51, 0)]) rfl (ab_JX_fr hX rfl) (fun _ h => absurd h List.not_mem_nil) ab_q287
-- AirBed.settle
theorem ab_h284 (hX : ab_XF X) : ab_Con ab_tab (ab_JX X) ab_s284 := ab_con (M := am_m81) (cl := [ab_s287, ab_s285]) (mdo := []) rfl (ab_JX_fr hX rfl) (List.forall_mem_cons.mpr ⟨ab_h287 hX, List.forall_mem_cons.mpr ⟨ab_h285 hX, fun _ h => absurd h List.not_mem_nil⟩⟩) ab_q284
-- AirBed.blow
theorem ab_h11 (hX : ab_XF X) : ab_Con ab_tab (ab_JX X) ab_s11 := ab_con (M := am_m69) (cl := [ab_s284, ab_s151, ab_s152, ab_s175, ab_s177, ab_s254, ab_s174, ab_s173, ab_s172]) (mdo := []) rfl (ab_JX_fr hX rfl) (List.forall_mem_cons.mpr ⟨ab_h284 hX, List.forall_mem_cons.mpr ⟨ab_h151 hX, List.forall_mem_cons.mpr ⟨ab_h152 hX, List.forall_mem_cons.mpr ⟨ab_h175 hX, List.forall_mem_cons.mpr ⟨ab_h177 hX, List.forall_mem_cons.mpr ⟨ab_h254 hX, List.forall_mem_cons.mpr ⟨ab_h174 hX, List.forall_mem_cons.mpr ⟨ab_h173 hX, List.forall_mem_cons.mpr ⟨ab_h172 hX, fun _ h => absurd h List.not_mem_nil⟩⟩⟩⟩⟩⟩⟩⟩⟩) ab_q11
-- AirBed.isWithin
theorem ab_h181 (hX : ab_XF X) : ab_Con ab_tab (ab_JX X) ab_s181 := ab_con (M := am_m62) (cl := []) (mdo := []) rfl (ab_JX_fr hX rfl) (fun _ h => absurd h List.not_mem_nil) ab_q181
-- AirBed.waits
theorem ab_h13 (hX : ab_XF X) : ab_Con ab_tab (ab_JX X) ab_s13 := ab_con (M := am_m83) (cl := [ab_s284, ab_s151, ab_s152, ab_s181, ab_s178]) (mdo := []) rfl (ab_JX_fr hX rfl) (List.forall_mem_cons.mpr ⟨ab_h284 hX, List.forall_mem_cons.mpr ⟨ab_h151 hX, List.forall_mem_cons.mpr ⟨ab_h152 hX, List.forall_mem_cons.mpr ⟨ab_h181 hX, List.forall_mem_cons.mpr ⟨ab_h178 hX, fun _ h => absurd h List.not_mem_nil⟩⟩⟩⟩⟩) ab_q13
-- AirBed$State.copy
theorem ab_h185 (hX : ab_XF X) : ab_Con ab_tab (ab_JX X) ab_s185 := ab_con (M := am_m64) (cl := []) (mdo := [(149, 1), (149, 2), (149, 3), (149, 4), (149, 5), (150, 0), (151, 0), (152, 0)]) rfl (ab_JX_fr hX rfl) (fun _ h => absurd h List.not_mem_nil) ab_q185
-- AirBed$Sim.begin
theorem ab_h183 (hX : ab_XF X) : ab_Con ab_tab (ab_JX X) ab_s183 := ab_con (M := am_m63) (cl := [ab_s185]) (mdo := [(148, 1), (148, 3), (148, 4), (148, 5), (148, 6), (148, 7)]) rfl (ab_JX_fr hX rfl) (List.forall_mem_cons.mpr ⟨ab_h185 hX, fun _ h => absurd h List.not_mem_nil⟩) ab_q183
-- AirBed$Sim.begin
theorem ab_h184 (hX : ab_XF X) : ab_Con ab_tab (ab_JX X) ab_s184 := ab_con (M := am_m63) (cl := [ab_s185]) (mdo := [(148, 1), (148, 3), (148, 4), (148, 5), (148, 6), (148, 7)]) rfl (ab_JX_fr hX rfl) (List.forall_mem_cons.mpr ⟨ab_h185 hX, fun _ h => absurd h List.not_mem_nil⟩) ab_q184
-- AirBed.pump
theorem ab_h15 (hX : ab_XF X) : ab_Con ab_tab (ab_JX X) ab_s15 := ab_con (M := am_m84) (cl := [ab_s284, ab_s183, ab_s184, ab_s178]) (mdo := [(148, 5), (149, 3), (149, 4)]) rfl (ab_JX_fr hX rfl) (List.forall_mem_cons.mpr ⟨ab_h284 hX, List.forall_mem_cons.mpr ⟨ab_h183 hX, List.forall_mem_cons.mpr ⟨ab_h184 hX, List.forall_mem_cons.mpr ⟨ab_h178 hX, fun _ h => absurd h List.not_mem_nil⟩⟩⟩⟩) ab_q15
-- AirBed$State.isPatched
theorem ab_h188 (hX : ab_XF X) : ab_Con ab_tab (ab_JX X) ab_s188 := ab_con (M := am_m76) (cl := []) (mdo := []) rfl (ab_JX_fr hX rfl) (fun _ h => absurd h List.not_mem_nil) ab_q188
-- AirBed.patch
theorem ab_h17 (hX : ab_XF X) : ab_Con ab_tab (ab_JX X) ab_s17 := ab_con (M := am_m85) (cl := [ab_s285, ab_s188]) (mdo := [(48, 5)]) rfl (ab_JX_fr hX rfl) (List.forall_mem_cons.mpr ⟨ab_h285 hX, List.forall_mem_cons.mpr ⟨ab_h188 hX, fun _ h => absurd h List.not_mem_nil⟩⟩) ab_q17
-- AirBed.leak
theorem ab_h19 (hX : ab_XF X) : ab_Con ab_tab (ab_JX X) ab_s19 := ab_con (M := am_m86) (cl := []) (mdo := []) rfl (ab_JX_fr hX rfl) (fun _ h => absurd h List.not_mem_nil) ab_q19
-- AirBed.isWithin
theorem ab_h190 (hX : ab_XF X) : ab_Con ab_tab (ab_JX X) ab_s190 := ab_con (M := am_m62) (cl := []) (mdo := []) rfl (ab_JX_fr hX rfl) (fun _ h => absurd h List.not_mem_nil) ab_q190
-- AirBed$Sim.isFull
theorem ab_h245 (hX : ab_XF X) : ab_Con ab_tab (ab_JX X) ab_s245 := ab_con (M := am_m91) (cl := []) (mdo := []) rfl (ab_JX_fr hX rfl) (fun _ h => absurd h List.not_mem_nil) ab_q245
-- AirBed$Sim.isOver
theorem ab_h244 (hX : ab_XF X) : ab_Con ab_tab (ab_JX X) ab_s244 := ab_con (M := am_m90) (cl := [ab_s245]) (mdo := []) rfl (ab_JX_fr hX rfl) (List.forall_mem_cons.mpr ⟨ab_h245 hX, fun _ h => absurd h List.not_mem_nil⟩) ab_q244
-- AirBed$Sim.isDizzy
theorem ab_h248 (hX : ab_XF X) : ab_Con ab_tab (ab_JX X) ab_s248 := ab_con (M := am_m93) (cl := [ab_s249]) (mdo := []) rfl (ab_JX_fr hX rfl) (List.forall_mem_cons.mpr ⟨ab_h249 hX, fun _ h => absurd h List.not_mem_nil⟩) ab_q248
-- AirBed$Sim.restLeft
theorem ab_h253 (hX : ab_XF X) : ab_Con ab_tab (ab_JX X) ab_s253 := ab_con (M := am_m94) (cl := [ab_s249]) (mdo := []) rfl (ab_JX_fr hX rfl) (List.forall_mem_cons.mpr ⟨ab_h249 hX, fun _ h => absurd h List.not_mem_nil⟩) ab_q253
-- AirBed$Sim.restIfDizzy
theorem ab_h252 (hX : ab_XF X) : ab_Con ab_tab (ab_JX X) ab_s252 := ab_con (M := am_m92) (cl := [ab_s248, ab_s253, ab_s178]) (mdo := []) rfl (ab_JX_fr hX rfl) (List.forall_mem_cons.mpr ⟨ab_h248 hX, List.forall_mem_cons.mpr ⟨ab_h253 hX, List.forall_mem_cons.mpr ⟨ab_h178 hX, fun _ h => absurd h List.not_mem_nil⟩⟩⟩) ab_q252
-- AirBed$Rules.goRounds
theorem ab_h242 (hX : ab_XF X) : ab_Con ab_tab (ab_JX X) ab_s242 := ab_con (M := am_m89) (cl := [ab_s244, ab_s177, ab_s252, ab_s254]) (mdo := [(158, 2), (158, 3)]) rfl (ab_JX_fr hX rfl) (List.forall_mem_cons.mpr ⟨ab_h244 hX, List.forall_mem_cons.mpr ⟨ab_h177 hX, List.forall_mem_cons.mpr ⟨ab_h252 hX, List.forall_mem_cons.mpr ⟨ab_h254 hX, fun _ h => absurd h List.not_mem_nil⟩⟩⟩⟩) ab_q242
-- AirBed$Sim.nextBreath
theorem ab_h251 (hX : ab_XF X) : ab_Con ab_tab (ab_JX X) ab_s251 := ab_con (M := am_m98) (cl := [ab_s249, ab_s213, ab_s214]) (mdo := []) rfl (ab_JX_fr hX rfl) (List.forall_mem_cons.mpr ⟨ab_h249 hX, List.forall_mem_cons.mpr ⟨ab_h213 hX, List.forall_mem_cons.mpr ⟨ab_h214 hX, fun _ h => absurd h List.not_mem_nil⟩⟩⟩) ab_q251
-- AirBed$Rules.isStronger
theorem ab_h250 (hX : ab_XF X) : ab_Con ab_tab (ab_JX X) ab_s250 := ab_con (M := am_m97) (cl := [ab_s251]) (mdo := []) rfl (ab_JX_fr hX rfl) (List.forall_mem_cons.mpr ⟨ab_h251 hX, fun _ h => absurd h List.not_mem_nil⟩) ab_q250
-- AirBed$Rules.strongest
theorem ab_h246 (hX : ab_XF X) : ab_Con ab_tab (ab_JX X) ab_s246 := ab_con (M := am_m96) (cl := [ab_s248, ab_s250]) (mdo := []) rfl (ab_JX_fr hX rfl) (List.forall_mem_cons.mpr ⟨ab_h248 hX, List.forall_mem_cons.mpr ⟨ab_h250 hX, fun _ h => absurd h List.not_mem_nil⟩⟩) ab_q246
-- AirBed$Rules.firstAwake
theorem ab_h247 (hX : ab_XF X) : ab_Con ab_tab (ab_JX X) ab_s247 := ab_con (M := am_m99) (cl := [ab_s248]) (mdo := []) rfl (ab_JX_fr hX rfl) (List.forall_mem_cons.mpr ⟨ab_h248 hX, fun _ h => absurd h List.not_mem_nil⟩) ab_q247
-- AirBed$Rules.goByRule
theorem ab_h243 (hX : ab_XF X) : ab_Con ab_tab (ab_JX X) ab_s243 := ab_con (M := am_m95) (cl := [ab_s246, ab_s244, ab_s177, ab_s248, ab_s254, ab_s247, ab_s178]) (mdo := []) rfl (ab_JX_fr hX rfl) (List.forall_mem_cons.mpr ⟨ab_h246 hX, List.forall_mem_cons.mpr ⟨ab_h244 hX, List.forall_mem_cons.mpr ⟨ab_h177 hX, List.forall_mem_cons.mpr ⟨ab_h248 hX, List.forall_mem_cons.mpr ⟨ab_h254 hX, List.forall_mem_cons.mpr ⟨ab_h247 hX, List.forall_mem_cons.mpr ⟨ab_h178 hX, fun _ h => absurd h List.not_mem_nil⟩⟩⟩⟩⟩⟩⟩) ab_q243
-- AirBed$Rules.secondsBy
theorem ab_h240 (hX : ab_XF X) : ab_Con ab_tab (ab_JX X) ab_s240 := ab_con (M := am_m88) (cl := [ab_s242, ab_s245, ab_s243, ab_s151]) (mdo := [(148, 6)]) rfl (ab_JX_fr hX rfl) (List.forall_mem_cons.mpr ⟨ab_h242 hX, List.forall_mem_cons.mpr ⟨ab_h245 hX, List.forall_mem_cons.mpr ⟨ab_h243 hX, List.forall_mem_cons.mpr ⟨ab_h151 hX, fun _ h => absurd h List.not_mem_nil⟩⟩⟩⟩) ab_q240
-- AirBed$Rules.secondsBy
theorem ab_h241 (hX : ab_XF X) : ab_Con ab_tab (ab_JX X) ab_s241 := ab_con (M := am_m88) (cl := [ab_s242, ab_s245, ab_s243, ab_s152]) (mdo := [(148, 6)]) rfl (ab_JX_fr hX rfl) (List.forall_mem_cons.mpr ⟨ab_h242 hX, List.forall_mem_cons.mpr ⟨ab_h245 hX, List.forall_mem_cons.mpr ⟨ab_h243 hX, List.forall_mem_cons.mpr ⟨ab_h152 hX, fun _ h => absurd h List.not_mem_nil⟩⟩⟩⟩) ab_q241
-- AirBed.ever
theorem ab_h21 (hX : ab_XF X) : ab_Con ab_tab (ab_JX X) ab_s21 := ab_con (M := am_m87) (cl := [ab_s240, ab_s241, ab_s190]) (mdo := []) rfl (ab_JX_fr hX rfl) (List.forall_mem_cons.mpr ⟨ab_h240 hX, List.forall_mem_cons.mpr ⟨ab_h241 hX, List.forall_mem_cons.mpr ⟨ab_h190 hX, fun _ h => absurd h List.not_mem_nil⟩⟩⟩) ab_q21
-- AirBed.isWithin
theorem ab_h192 (hX : ab_XF X) : ab_Con ab_tab (ab_JX X) ab_s192 := ab_con (M := am_m62) (cl := []) (mdo := []) rfl (ab_JX_fr hX rfl) (fun _ h => absurd h List.not_mem_nil) ab_q192
-- AirBed$Best.offer
theorem ab_h359 (hX : ab_XF X) : ab_Con ab_tab (ab_JX X) ab_s359 := ab_con (M := am_m102) (cl := []) (mdo := [(159, 4), (160, 1), (160, 2), (160, 3), (160, 4), (160, 5), (160, 6)]) rfl (ab_JX_fr hX rfl) (fun _ h => absurd h List.not_mem_nil) ab_q359
-- AirBed$State.copy
theorem ab_h208 (hX : ab_XF X) : ab_Con ab_tab (ab_JX X) ab_s208 := ab_con (M := am_m64) (cl := []) (mdo := [(154, 1), (154, 2), (154, 3), (154, 4), (154, 5), (155, 0), (156, 0), (157, 0)]) rfl (ab_JX_fr hX rfl) (fun _ h => absurd h List.not_mem_nil) ab_q208
-- AirBed$Sim.begin
theorem ab_h206 (hX : ab_XF X) : ab_Con ab_tab (ab_JX X) ab_s206 := ab_con (M := am_m63) (cl := [ab_s208]) (mdo := [(153, 1), (153, 3), (153, 4), (153, 5), (153, 6), (153, 7)]) rfl (ab_JX_fr hX rfl) (List.forall_mem_cons.mpr ⟨ab_h208 hX, fun _ h => absurd h List.not_mem_nil⟩) ab_q206
-- AirBed$Sim.begin
theorem ab_h207 (hX : ab_XF X) : ab_Con ab_tab (ab_JX X) ab_s207 := ab_con (M := am_m63) (cl := [ab_s208]) (mdo := [(153, 1), (153, 3), (153, 4), (153, 5), (153, 6), (153, 7)]) rfl (ab_JX_fr hX rfl) (List.forall_mem_cons.mpr ⟨ab_h208 hX, fun _ h => absurd h List.not_mem_nil⟩) ab_q207
-- AirBed$State.isPatched
theorem ab_h210 (hX : ab_XF X) : ab_Con ab_tab (ab_JX X) ab_s210 := ab_con (M := am_m76) (cl := []) (mdo := []) rfl (ab_JX_fr hX rfl) (fun _ h => absurd h List.not_mem_nil) ab_q210
-- AirBed$Sim.worth
theorem ab_h211 (hX : ab_XF X) : ab_Con ab_tab (ab_JX X) ab_s211 := ab_con (M := am_m65) (cl := [ab_s155, ab_s156, ab_s158]) (mdo := [(17, 1), (17, 2), (17, 3), (17, 4), (17, 5), (17, 6), (38, 1), (38, 2), (38, 3), (38, 4), (38, 5), (38, 6)]) rfl (ab_JX_fr hX rfl) (List.forall_mem_cons.mpr ⟨ab_h155 hX, List.forall_mem_cons.mpr ⟨ab_h156 hX, List.forall_mem_cons.mpr ⟨ab_h158 hX, fun _ h => absurd h List.not_mem_nil⟩⟩⟩) ab_q211
-- AirBed$Sim.goBy
theorem ab_h209 (hX : ab_XF X) : ab_Con ab_tab (ab_JX X) ab_s209 := ab_con (M := am_m75) (cl := [ab_s210, ab_s211, ab_s158]) (mdo := [(153, 7), (154, 1), (154, 2)]) rfl (ab_JX_fr hX rfl) (List.forall_mem_cons.mpr ⟨ab_h210 hX, List.forall_mem_cons.mpr ⟨ab_h211 hX, List.forall_mem_cons.mpr ⟨ab_h158 hX, fun _ h => absurd h List.not_mem_nil⟩⟩⟩) ab_q209
-- AirBed$Sim.handsOf
theorem ab_h362 (hX : ab_XF X) : ab_Con ab_tab (ab_JX X) ab_s362 := ab_con (M := am_m72) (cl := []) (mdo := []) rfl (ab_JX_fr hX rfl) (fun _ h => absurd h List.not_mem_nil) ab_q362
-- AirBed$Sim.handOver
theorem ab_h361 (hX : ab_XF X) : ab_Con ab_tab (ab_JX X) ab_s361 := ab_con (M := am_m74) (cl := [ab_s362, ab_s209]) (mdo := []) rfl (ab_JX_fr hX rfl) (List.forall_mem_cons.mpr ⟨ab_h362 hX, List.forall_mem_cons.mpr ⟨ab_h209 hX, fun _ h => absurd h List.not_mem_nil⟩⟩) ab_q361
-- AirBed$Sim.sinceAt
theorem ab_h365 (hX : ab_XF X) : ab_Con ab_tab (ab_JX X) ab_s365 := ab_con (M := am_m73) (cl := []) (mdo := []) rfl (ab_JX_fr hX rfl) (fun _ h => absurd h List.not_mem_nil) ab_q365
-- AirBed$Sim.since
theorem ab_h364 (hX : ab_XF X) : ab_Con ab_tab (ab_JX X) ab_s364 := ab_con (M := am_m78) (cl := [ab_s365]) (mdo := []) rfl (ab_JX_fr hX rfl) (List.forall_mem_cons.mpr ⟨ab_h365 hX, fun _ h => absurd h List.not_mem_nil⟩) ab_q364
-- AirBed$Sim.isDizzy
theorem ab_h363 (hX : ab_XF X) : ab_Con ab_tab (ab_JX X) ab_s363 := ab_con (M := am_m93) (cl := [ab_s364]) (mdo := []) rfl (ab_JX_fr hX rfl) (List.forall_mem_cons.mpr ⟨ab_h364 hX, fun _ h => absurd h List.not_mem_nil⟩) ab_q363
-- AirBed$Sim.fillBy
theorem ab_h215 (hX : ab_XF X) : ab_Con ab_tab (ab_JX X) ab_s215 := ab_con (M := am_m80) (cl := [ab_s211, ab_s158]) (mdo := [(154, 1)]) rfl (ab_JX_fr hX rfl) (List.forall_mem_cons.mpr ⟨ab_h211 hX, List.forall_mem_cons.mpr ⟨ab_h158 hX, fun _ h => absurd h List.not_mem_nil⟩⟩) ab_q215
-- AirBed$Sim.breathe
theorem ab_h366 (hX : ab_XF X) : ab_Con ab_tab (ab_JX X) ab_s366 := ab_con (M := am_m77) (cl := [ab_s364, ab_s209, ab_s215, ab_s213, ab_s214]) (mdo := [(154, 3), (155, 0), (156, 0), (157, 0)]) rfl (ab_JX_fr hX rfl) (List.forall_mem_cons.mpr ⟨ab_h364 hX, List.forall_mem_cons.mpr ⟨ab_h209 hX, List.forall_mem_cons.mpr ⟨ab_h215 hX, List.forall_mem_cons.mpr ⟨ab_h213 hX, List.forall_mem_cons.mpr ⟨ab_h214 hX, fun _ h => absurd h List.not_mem_nil⟩⟩⟩⟩⟩) ab_q366
-- AirBed$Best.offer
theorem ab_h367 (hX : ab_XF X) : ab_Con ab_tab (ab_JX X) ab_s367 := ab_con (M := am_m102) (cl := []) (mdo := [(159, 4), (160, 1), (160, 2), (160, 3), (160, 4), (160, 5), (160, 6)]) rfl (ab_JX_fr hX rfl) (fun _ h => absurd h List.not_mem_nil) ab_q367
-- AirBed$Best.tryBehind
theorem ab_h360 (hX : ab_XF X) : ab_Con ab_tab (ab_JX X) ab_s360 := ab_con (M := am_m103) (cl := [ab_s206, ab_s207, ab_s361, ab_s363, ab_s366, ab_s367]) (mdo := []) rfl (ab_JX_fr hX rfl) (List.forall_mem_cons.mpr ⟨ab_h206 hX, List.forall_mem_cons.mpr ⟨ab_h207 hX, List.forall_mem_cons.mpr ⟨ab_h361 hX, List.forall_mem_cons.mpr ⟨ab_h363 hX, List.forall_mem_cons.mpr ⟨ab_h366 hX, List.forall_mem_cons.mpr ⟨ab_h367 hX, fun _ h => absurd h List.not_mem_nil⟩⟩⟩⟩⟩⟩) ab_q360
-- AirBed$Best.find
theorem ab_h357 (hX : ab_XF X) : ab_Con ab_tab (ab_JX X) ab_s357 := ab_con (M := am_m101) (cl := [ab_s151, ab_s177, ab_s248, ab_s254, ab_s360, ab_s359]) (mdo := [(159, 4)]) rfl (ab_JX_fr hX rfl) (List.forall_mem_cons.mpr ⟨ab_h151 hX, List.forall_mem_cons.mpr ⟨ab_h177 hX, List.forall_mem_cons.mpr ⟨ab_h248 hX, List.forall_mem_cons.mpr ⟨ab_h254 hX, List.forall_mem_cons.mpr ⟨ab_h360 hX, List.forall_mem_cons.mpr ⟨ab_h359 hX, fun _ h => absurd h List.not_mem_nil⟩⟩⟩⟩⟩⟩) ab_q357
-- AirBed$Best.find
theorem ab_h358 (hX : ab_XF X) : ab_Con ab_tab (ab_JX X) ab_s358 := ab_con (M := am_m101) (cl := [ab_s152, ab_s177, ab_s248, ab_s254, ab_s360, ab_s359]) (mdo := [(159, 4)]) rfl (ab_JX_fr hX rfl) (List.forall_mem_cons.mpr ⟨ab_h152 hX, List.forall_mem_cons.mpr ⟨ab_h177 hX, List.forall_mem_cons.mpr ⟨ab_h248 hX, List.forall_mem_cons.mpr ⟨ab_h254 hX, List.forall_mem_cons.mpr ⟨ab_h360 hX, List.forall_mem_cons.mpr ⟨ab_h359 hX, fun _ h => absurd h List.not_mem_nil⟩⟩⟩⟩⟩⟩) ab_q358
-- AirBed.best
theorem ab_h23 (hX : ab_XF X) : ab_Con ab_tab (ab_JX X) ab_s23 := ab_con (M := am_m100) (cl := [ab_s357, ab_s358, ab_s192]) (mdo := []) rfl (ab_JX_fr hX rfl) (List.forall_mem_cons.mpr ⟨ab_h357 hX, List.forall_mem_cons.mpr ⟨ab_h358 hX, List.forall_mem_cons.mpr ⟨ab_h192 hX, fun _ h => absurd h List.not_mem_nil⟩⟩⟩) ab_q23
-- AirBed.isWithin
theorem ab_h194 (hX : ab_XF X) : ab_Con ab_tab (ab_JX X) ab_s194 := ab_con (M := am_m62) (cl := []) (mdo := []) rfl (ab_JX_fr hX rfl) (fun _ h => absurd h List.not_mem_nil) ab_q194
-- AirBed.isWithin
theorem ab_h200 (hX : ab_XF X) : ab_Con ab_tab (ab_JX X) ab_s200 := ab_con (M := am_m62) (cl := []) (mdo := []) rfl (ab_JX_fr hX rfl) (fun _ h => absurd h List.not_mem_nil) ab_q200
-- AirBed.secondsAbove
theorem ab_h373 (hX : ab_XF X) : ab_Con ab_tab (ab_JX X) ab_s373 := ab_con (M := am_m105) (cl := [ab_s151, ab_s152, ab_s178]) (mdo := [(149, 1)]) rfl (ab_JX_fr hX rfl) (List.forall_mem_cons.mpr ⟨ab_h151 hX, List.forall_mem_cons.mpr ⟨ab_h152 hX, List.forall_mem_cons.mpr ⟨ab_h178 hX, fun _ h => absurd h List.not_mem_nil⟩⟩⟩) ab_q373
-- AirBed.lasts
theorem ab_h25 (hX : ab_XF X) : ab_Con ab_tab (ab_JX X) ab_s25 := ab_con (M := am_m104) (cl := [ab_s373, ab_s200, ab_s194]) (mdo := []) rfl (ab_JX_fr hX rfl) (List.forall_mem_cons.mpr ⟨ab_h373 hX, List.forall_mem_cons.mpr ⟨ab_h200 hX, List.forall_mem_cons.mpr ⟨ab_h194 hX, fun _ h => absurd h List.not_mem_nil⟩⟩⟩) ab_q25
-- AirBed.isWithin
theorem ab_h196 (hX : ab_XF X) : ab_Con ab_tab (ab_JX X) ab_s196 := ab_con (M := am_m62) (cl := []) (mdo := []) rfl (ab_JX_fr hX rfl) (fun _ h => absurd h List.not_mem_nil) ab_q196
-- AirBed.firm
theorem ab_h27 (hX : ab_XF X) : ab_Con ab_tab (ab_JX X) ab_s27 := ab_con (M := am_m106) (cl := [ab_s373, ab_s196, ab_s200]) (mdo := []) rfl (ab_JX_fr hX rfl) (List.forall_mem_cons.mpr ⟨ab_h373 hX, List.forall_mem_cons.mpr ⟨ab_h196 hX, List.forall_mem_cons.mpr ⟨ab_h200 hX, fun _ h => absurd h List.not_mem_nil⟩⟩⟩) ab_q27
-- AirBed.isWithin
theorem ab_h199 (hX : ab_XF X) : ab_Con ab_tab (ab_JX X) ab_s199 := ab_con (M := am_m62) (cl := []) (mdo := []) rfl (ab_JX_fr hX rfl) (fun _ h => absurd h List.not_mem_nil) ab_q199
-- AirBed.isNight
theorem ab_h198 (hX : ab_XF X) : ab_Con ab_tab (ab_JX X) ab_s198 := ab_con (M := am_m108) (cl := [ab_s199, ab_s200]) (mdo := []) rfl (ab_JX_fr hX rfl) (List.forall_mem_cons.mpr ⟨ab_h199 hX, List.forall_mem_cons.mpr ⟨ab_h200 hX, fun _ h => absurd h List.not_mem_nil⟩⟩) ab_q198
-- AirBed$Sim.getUp
theorem ab_h212 (hX : ab_XF X) : ab_Con ab_tab (ab_JX X) ab_s212 := ab_con (M := am_m111) (cl := [ab_s209, ab_s215, ab_s213, ab_s214]) (mdo := []) rfl (ab_JX_fr hX rfl) (List.forall_mem_cons.mpr ⟨ab_h209 hX, List.forall_mem_cons.mpr ⟨ab_h215 hX, List.forall_mem_cons.mpr ⟨ab_h213 hX, List.forall_mem_cons.mpr ⟨ab_h214 hX, fun _ h => absurd h List.not_mem_nil⟩⟩⟩⟩) ab_q212
-- AirBed.mustRise
theorem ab_h205 (hX : ab_XF X) : ab_Con ab_tab (ab_JX X) ab_s205 := ab_con (M := am_m110) (cl := [ab_s206, ab_s207, ab_s209, ab_s212]) (mdo := []) rfl (ab_JX_fr hX rfl) (List.forall_mem_cons.mpr ⟨ab_h206 hX, List.forall_mem_cons.mpr ⟨ab_h207 hX, List.forall_mem_cons.mpr ⟨ab_h209 hX, List.forall_mem_cons.mpr ⟨ab_h212 hX, fun _ h => absurd h List.not_mem_nil⟩⟩⟩⟩) ab_q205
-- AirBed$Sim.getUp
theorem ab_h216 (hX : ab_XF X) : ab_Con ab_tab (ab_JX X) ab_s216 := ab_con (M := am_m111) (cl := [ab_s217, ab_s178, ab_s213, ab_s214]) (mdo := []) rfl (ab_JX_fr hX rfl) (List.forall_mem_cons.mpr ⟨ab_h217 hX, List.forall_mem_cons.mpr ⟨ab_h178 hX, List.forall_mem_cons.mpr ⟨ab_h213 hX, List.forall_mem_cons.mpr ⟨ab_h214 hX, fun _ h => absurd h List.not_mem_nil⟩⟩⟩⟩) ab_q216
-- AirBed.timesUp
theorem ab_h204 (hX : ab_XF X) : ab_Con ab_tab (ab_JX X) ab_s204 := ab_con (M := am_m109) (cl := [ab_s151, ab_s152, ab_s216, ab_s178, ab_s205]) (mdo := []) rfl (ab_JX_fr hX rfl) (List.forall_mem_cons.mpr ⟨ab_h151 hX, List.forall_mem_cons.mpr ⟨ab_h152 hX, List.forall_mem_cons.mpr ⟨ab_h216 hX, List.forall_mem_cons.mpr ⟨ab_h178 hX, List.forall_mem_cons.mpr ⟨ab_h205 hX, fun _ h => absurd h List.not_mem_nil⟩⟩⟩⟩⟩) ab_q204
-- AirBed.up
theorem ab_h29 (hX : ab_XF X) : ab_Con ab_tab (ab_JX X) ab_s29 := ab_con (M := am_m107) (cl := [ab_s204, ab_s172, ab_s198]) (mdo := []) rfl (ab_JX_fr hX rfl) (List.forall_mem_cons.mpr ⟨ab_h204 hX, List.forall_mem_cons.mpr ⟨ab_h172 hX, List.forall_mem_cons.mpr ⟨ab_h198 hX, fun _ h => absurd h List.not_mem_nil⟩⟩⟩) ab_q29
-- AirBed.upAt
theorem ab_h31 (hX : ab_XF X) : ab_Con ab_tab (ab_JX X) ab_s31 := ab_con (M := am_m112) (cl := [ab_s204, ab_s172, ab_s198]) (mdo := []) rfl (ab_JX_fr hX rfl) (List.forall_mem_cons.mpr ⟨ab_h204 hX, List.forall_mem_cons.mpr ⟨ab_h172 hX, List.forall_mem_cons.mpr ⟨ab_h198 hX, fun _ h => absurd h List.not_mem_nil⟩⟩⟩) ab_q31
-- AirBed.cheapest
theorem ab_h33 (hX : ab_XF X) : ab_Con ab_tab (ab_JX X) ab_s33 := ab_con (M := am_m113) (cl := [ab_s204, ab_s149, ab_s198]) (mdo := []) rfl (ab_JX_fr hX rfl) (List.forall_mem_cons.mpr ⟨ab_h204 hX, List.forall_mem_cons.mpr ⟨ab_h149 hX, List.forall_mem_cons.mpr ⟨ab_h198 hX, fun _ h => absurd h List.not_mem_nil⟩⟩⟩) ab_q33
-- AirBed.isWithin
theorem ab_h229 (hX : ab_XF X) : ab_Con ab_tab (ab_JX X) ab_s229 := ab_con (M := am_m62) (cl := []) (mdo := []) rfl (ab_JX_fr hX rfl) (fun _ h => absurd h List.not_mem_nil) ab_q229
-- AirBed$State.copy
theorem ab_h377 (hX : ab_XF X) : ab_Con ab_tab (ab_JX X) ab_s377 := ab_con (M := am_m64) (cl := []) (mdo := [(154, 1), (154, 2), (154, 3), (154, 4), (154, 5), (155, 0), (156, 0), (157, 0)]) rfl (ab_JX_fr hX rfl) (fun _ h => absurd h List.not_mem_nil) ab_q377
-- AirBed$Sim.begin
theorem ab_h375 (hX : ab_XF X) : ab_Con ab_tab (ab_JX X) ab_s375 := ab_con (M := am_m63) (cl := [ab_s377]) (mdo := [(153, 1), (153, 3), (153, 4), (153, 5), (153, 6), (153, 7)]) rfl (ab_JX_fr hX rfl) (List.forall_mem_cons.mpr ⟨ab_h377 hX, fun _ h => absurd h List.not_mem_nil⟩) ab_q375
-- AirBed$Sim.begin
theorem ab_h376 (hX : ab_XF X) : ab_Con ab_tab (ab_JX X) ab_s376 := ab_con (M := am_m63) (cl := [ab_s377]) (mdo := [(153, 1), (153, 3), (153, 4), (153, 5), (153, 6), (153, 7)]) rfl (ab_JX_fr hX rfl) (List.forall_mem_cons.mpr ⟨ab_h377 hX, fun _ h => absurd h List.not_mem_nil⟩) ab_q376
-- AirBed$State.copy
theorem ab_h382 (hX : ab_XF X) : ab_Con ab_tab (ab_JX X) ab_s382 := ab_con (M := am_m64) (cl := []) (mdo := [(149, 1), (149, 2), (149, 3), (149, 4), (149, 5), (150, 0), (151, 0), (152, 0)]) rfl (ab_JX_fr hX rfl) (fun _ h => absurd h List.not_mem_nil) ab_q382
-- AirBed$Sim.begin
theorem ab_h380 (hX : ab_XF X) : ab_Con ab_tab (ab_JX X) ab_s380 := ab_con (M := am_m63) (cl := [ab_s382]) (mdo := [(148, 1), (148, 3), (148, 4), (148, 5), (148, 6), (148, 7)]) rfl (ab_JX_fr hX rfl) (List.forall_mem_cons.mpr ⟨ab_h382 hX, fun _ h => absurd h List.not_mem_nil⟩) ab_q380
-- AirBed$Sim.begin
theorem ab_h381 (hX : ab_XF X) : ab_Con ab_tab (ab_JX X) ab_s381 := ab_con (M := am_m63) (cl := [ab_s382]) (mdo := [(148, 1), (148, 3), (148, 4), (148, 5), (148, 6), (148, 7)]) rfl (ab_JX_fr hX rfl) (List.forall_mem_cons.mpr ⟨ab_h382 hX, fun _ h => absurd h List.not_mem_nil⟩) ab_q381
-- AirBed.lend
theorem ab_h35 (hX : ab_XF X) : ab_Con ab_tab (ab_JX X) ab_s35 := ab_con (M := am_m114) (cl := [ab_s380, ab_s381, ab_s375, ab_s376, ab_s209, ab_s149, ab_s229, ab_s178]) (mdo := [(148, 5)]) rfl (ab_JX_fr hX rfl) (List.forall_mem_cons.mpr ⟨ab_h380 hX, List.forall_mem_cons.mpr ⟨ab_h381 hX, List.forall_mem_cons.mpr ⟨ab_h375 hX, List.forall_mem_cons.mpr ⟨ab_h376 hX, List.forall_mem_cons.mpr ⟨ab_h209 hX, List.forall_mem_cons.mpr ⟨ab_h149 hX, List.forall_mem_cons.mpr ⟨ab_h229 hX, List.forall_mem_cons.mpr ⟨ab_h178 hX, fun _ h => absurd h List.not_mem_nil⟩⟩⟩⟩⟩⟩⟩⟩) ab_q35
-- AirBed$Search.findNext
theorem ab_h233 (hX : ab_XF X) : ab_Con ab_tab (ab_JX X) ab_s233 := ab_con (M := am_m117) (cl := []) (mdo := [(161, 1), (161, 2)]) rfl (ab_JX_fr hX rfl) (fun _ h => absurd h List.not_mem_nil) ab_q233
-- AirBed$Search.reach
theorem ab_h231 (hX : ab_XF X) : ab_Con ab_tab (ab_JX X) ab_s231 := ab_con (M := am_m116) (cl := [ab_s233, ab_s188]) (mdo := [(162, 0), (163, 0)]) rfl (ab_JX_fr hX rfl) (List.forall_mem_cons.mpr ⟨ab_h233 hX, List.forall_mem_cons.mpr ⟨ab_h188 hX, fun _ h => absurd h List.not_mem_nil⟩⟩) ab_q231
-- AirBed$Search.findNext
theorem ab_h234 (hX : ab_XF X) : ab_Con ab_tab (ab_JX X) ab_s234 := ab_con (M := am_m117) (cl := []) (mdo := [(161, 1), (161, 2)]) rfl (ab_JX_fr hX rfl) (fun _ h => absurd h List.not_mem_nil) ab_q234
-- AirBed$Search.reach
theorem ab_h232 (hX : ab_XF X) : ab_Con ab_tab (ab_JX X) ab_s232 := ab_con (M := am_m116) (cl := [ab_s234, ab_s188]) (mdo := [(162, 0), (163, 0)]) rfl (ab_JX_fr hX rfl) (List.forall_mem_cons.mpr ⟨ab_h234 hX, List.forall_mem_cons.mpr ⟨ab_h188 hX, fun _ h => absurd h List.not_mem_nil⟩⟩) ab_q232
-- AirBed.seek
theorem ab_h37 (hX : ab_XF X) : ab_Con ab_tab (ab_JX X) ab_s37 := ab_con (M := am_m115) (cl := [ab_s231, ab_s232, ab_s149]) (mdo := []) rfl (ab_JX_fr hX rfl) (List.forall_mem_cons.mpr ⟨ab_h231 hX, List.forall_mem_cons.mpr ⟨ab_h232 hX, List.forall_mem_cons.mpr ⟨ab_h149 hX, fun _ h => absurd h List.not_mem_nil⟩⟩⟩) ab_q37
-- AirBed$Plan.surestTrialSeconds
theorem ab_h235 (hX : ab_XF X) : ab_Con ab_tab (ab_JX X) ab_s235 := ab_con (M := am_m119) (cl := []) (mdo := []) rfl (ab_JX_fr hX rfl) (fun _ h => absurd h List.not_mem_nil) ab_q235
-- AirBed$Plan.surestTrialSeconds
theorem ab_h236 (hX : ab_XF X) : ab_Con ab_tab (ab_JX X) ab_s236 := ab_con (M := am_m119) (cl := []) (mdo := []) rfl (ab_JX_fr hX rfl) (fun _ h => absurd h List.not_mem_nil) ab_q236
-- AirBed$Plan.placeByWeight
theorem ab_h378 (hX : ab_XF X) : ab_Con ab_tab (ab_JX X) ab_s378 := ab_con (M := am_m120) (cl := []) (mdo := []) rfl (ab_JX_fr hX rfl) (fun _ h => absurd h List.not_mem_nil) ab_q378
-- AirBed$Plan.placeByWeight
theorem ab_h379 (hX : ab_XF X) : ab_Con ab_tab (ab_JX X) ab_s379 := ab_con (M := am_m120) (cl := []) (mdo := []) rfl (ab_JX_fr hX rfl) (fun _ h => absurd h List.not_mem_nil) ab_q379
-- AirBed.commonDivisor
theorem ab_h383 (hX : ab_XF X) : ab_Con ab_tab (ab_JX X) ab_s383 := ab_con (M := am_m121) (cl := []) (mdo := []) rfl (ab_JX_fr hX rfl) (fun _ h => absurd h List.not_mem_nil) ab_q383
-- AirBed.mean
theorem ab_h39 (hX : ab_XF X) : ab_Con ab_tab (ab_JX X) ab_s39 := ab_con (M := am_m118) (cl := [ab_s235, ab_s236, ab_s378, ab_s379, ab_s149, ab_s383]) (mdo := []) rfl (ab_JX_fr hX rfl) (List.forall_mem_cons.mpr ⟨ab_h235 hX, List.forall_mem_cons.mpr ⟨ab_h236 hX, List.forall_mem_cons.mpr ⟨ab_h378 hX, List.forall_mem_cons.mpr ⟨ab_h379 hX, List.forall_mem_cons.mpr ⟨ab_h149 hX, List.forall_mem_cons.mpr ⟨ab_h383 hX, fun _ h => absurd h List.not_mem_nil⟩⟩⟩⟩⟩⟩) ab_q39
-- AirBed.isWithin
theorem ab_h239 (hX : ab_XF X) : ab_Con ab_tab (ab_JX X) ab_s239 := ab_con (M := am_m62) (cl := []) (mdo := []) rfl (ab_JX_fr hX rfl) (fun _ h => absurd h List.not_mem_nil) ab_q239
-- AirBed.isRule
theorem ab_h238 (hX : ab_XF X) : ab_Con ab_tab (ab_JX X) ab_s238 := ab_con (M := am_m123) (cl := [ab_s239]) (mdo := []) rfl (ab_JX_fr hX rfl) (List.forall_mem_cons.mpr ⟨ab_h239 hX, fun _ h => absurd h List.not_mem_nil⟩) ab_q238
-- AirBed.rule
theorem ab_h41 (hX : ab_XF X) : ab_Con ab_tab (ab_JX X) ab_s41 := ab_con (M := am_m122) (cl := [ab_s240, ab_s241, ab_s238]) (mdo := []) rfl (ab_JX_fr hX rfl) (List.forall_mem_cons.mpr ⟨ab_h240 hX, List.forall_mem_cons.mpr ⟨ab_h241 hX, List.forall_mem_cons.mpr ⟨ab_h238 hX, fun _ h => absurd h List.not_mem_nil⟩⟩⟩) ab_q41
-- AirBed.fairest
theorem ab_h43 (hX : ab_XF X) : ab_Con ab_tab (ab_JX X) ab_s43 := ab_con (M := am_m124) (cl := [ab_s240, ab_s241, ab_s238]) (mdo := []) rfl (ab_JX_fr hX rfl) (List.forall_mem_cons.mpr ⟨ab_h240 hX, List.forall_mem_cons.mpr ⟨ab_h241 hX, List.forall_mem_cons.mpr ⟨ab_h238 hX, fun _ h => absurd h List.not_mem_nil⟩⟩⟩) ab_q43
-- AirBed$Cheeks.add
theorem ab_h263 (hX : ab_XF X) : ab_Con ab_tab (ab_JX X) ab_s263 := ab_conH (M := am_m126) (cl := []) (mdo := [(142, 1), (145, 0), (146, 0)]) (hs := [6]) rfl (ab_JX_fr hX rfl) (fun _ h => absurd h List.not_mem_nil) (fun as h0 _ t ht => (List.mem_singleton.mp ht) ▸ ab_add_hole hX (lo := 1) (hi := 1) (lv := 0) (uv := 3) (by decide +kernel) (by decide +kernel) (ab_arr (o := 143) (by decide +kernel) (by decide +kernel)) (ab_arr (o := 144) (by decide +kernel) (by decide +kernel)) (by decide) (fun op v _ _ h3 h4 _ => by omega) (by decide +kernel) (by decide +kernel) rfl) ab_q263
-- AirBed$Cheeks.add
theorem ab_h264 (hX : ab_XF X) : ab_Con ab_tab (ab_JX X) ab_s264 := ab_conH (M := am_m126) (cl := []) (mdo := [(142, 1), (145, 0), (146, 0)]) (hs := [6]) rfl (ab_JX_fr hX rfl) (fun _ h => absurd h List.not_mem_nil) (fun as h0 _ t ht => (List.mem_singleton.mp ht) ▸ ab_add_hole hX (lo := 0) (hi := 0) (lv := 0) (uv := 3) (by decide +kernel) (by decide +kernel) (ab_arr (o := 143) (by decide +kernel) (by decide +kernel)) (ab_arr (o := 144) (by decide +kernel) (by decide +kernel)) (by decide) (fun op v _ _ h3 h4 _ => by omega) (by decide +kernel) (by decide +kernel) rfl) ab_q264
-- AirBed.cheek
theorem ab_h45 (hX : ab_XF X) : ab_Con ab_tab (ab_JX X) ab_s45 := ab_con (M := am_m125) (cl := [ab_s263, ab_s264, ab_s173, ab_s200, ab_s172]) (mdo := []) rfl (ab_JX_fr hX rfl) (List.forall_mem_cons.mpr ⟨ab_h263 hX, List.forall_mem_cons.mpr ⟨ab_h264 hX, List.forall_mem_cons.mpr ⟨ab_h173 hX, List.forall_mem_cons.mpr ⟨ab_h200 hX, List.forall_mem_cons.mpr ⟨ab_h172 hX, fun _ h => absurd h List.not_mem_nil⟩⟩⟩⟩⟩) ab_q45
-- AirBed$Cheeks.add
theorem ab_h266 (hX : ab_XF X) : ab_Con ab_tab (ab_JX X) ab_s266 := ab_conH (M := am_m126) (cl := []) (mdo := [(142, 1), (145, 0), (146, 0)]) (hs := [6]) rfl (ab_JX_fr hX rfl) (fun _ h => absurd h List.not_mem_nil) (fun as h0 _ t ht => (List.mem_singleton.mp ht) ▸ ab_add_hole hX (lo := 2) (hi := 2) (lv := 0) (uv := 23) (by decide +kernel) (by decide +kernel) (ab_arr (o := 143) (by decide +kernel) (by decide +kernel)) (ab_arr (o := 144) (by decide +kernel) (by decide +kernel)) (by decide) (fun op v h1 h2 _ _ e => absurd (Int32.toInt_inj.mp (show op.toInt = (2 : Int32).toInt by rw [show (2 : Int32).toInt = 2 by decide]; omega)) e) (by decide +kernel) (by decide +kernel) rfl) ab_q266
-- AirBed.strike
theorem ab_h47 (hX : ab_XF X) : ab_Con ab_tab (ab_JX X) ab_s47 := ab_con (M := am_m127) (cl := [ab_s266]) (mdo := []) rfl (ab_JX_fr hX rfl) (List.forall_mem_cons.mpr ⟨ab_h266 hX, fun _ h => absurd h List.not_mem_nil⟩) ab_q47
-- AirBed.known
theorem ab_h49 (hX : ab_XF X) : ab_Con ab_tab (ab_JX X) ab_s49 := ab_con (M := am_m128) (cl := []) (mdo := [(142, 2)]) rfl (ab_JX_fr hX rfl) (fun _ h => absurd h List.not_mem_nil) ab_q49
-- AirBed$Cheeks.knownBy
theorem ab_h270 (hX : ab_XF X) : ab_Con ab_tab (ab_JX X) ab_s270 := ab_con (M := am_m131) (cl := []) (mdo := []) rfl (ab_JX_fr hX rfl) (fun _ h => absurd h List.not_mem_nil) ab_q270
-- AirBed$Cheeks.markStruck
theorem ab_h269 (hX : ab_XF X) : ab_Con ab_tab (ab_JX X) ab_s269 := ab_con (M := am_m130) (cl := [ab_s270]) (mdo := [(147, 0)]) rfl (ab_JX_fr hX rfl) (List.forall_mem_cons.mpr ⟨ab_h270 hX, fun _ h => absurd h List.not_mem_nil⟩) ab_q269
-- AirBed$State.begin
theorem ab_h384 (hX : ab_XF X) : ab_Con ab_tab (ab_JX X) ab_s384 := ab_con (M := am_m14) (cl := []) (mdo := [(52, 1), (52, 2), (52, 3), (52, 4), (52, 5), (53, 0), (54, 0), (55, 0)]) rfl (ab_JX_fr hX rfl) (fun _ h => absurd h List.not_mem_nil) ab_q384
-- AirBed$State.begin
theorem ab_h385 (hX : ab_XF X) : ab_Con ab_tab (ab_JX X) ab_s385 := ab_con (M := am_m14) (cl := []) (mdo := [(52, 1), (52, 2), (52, 3), (52, 4), (52, 5), (53, 0), (54, 0), (55, 0)]) rfl (ab_JX_fr hX rfl) (fun _ h => absurd h List.not_mem_nil) ab_q385
-- AirBed$Cheeks.isSeen
theorem ab_h387 (hX : ab_XF X) : ab_Con ab_tab (ab_JX X) ab_s387 := ab_con (M := am_m133) (cl := []) (mdo := []) rfl (ab_JX_fr hX rfl) (fun _ h => absurd h List.not_mem_nil) ab_q387
-- AirBed$State.copy
theorem ab_h391 (hX : ab_XF X) : ab_Con ab_tab (ab_JX X) ab_s391 := ab_con (M := am_m64) (cl := []) (mdo := [(149, 1), (149, 2), (149, 3), (149, 4), (149, 5), (150, 0), (151, 0), (152, 0)]) rfl (ab_JX_fr hX rfl) (fun _ h => absurd h List.not_mem_nil) ab_q391
-- AirBed$Sim.begin
theorem ab_h389 (hX : ab_XF X) : ab_Con ab_tab (ab_JX X) ab_s389 := ab_con (M := am_m63) (cl := [ab_s391]) (mdo := [(148, 1), (148, 3), (148, 4), (148, 5), (148, 6), (148, 7)]) rfl (ab_JX_fr hX rfl) (List.forall_mem_cons.mpr ⟨ab_h391 hX, fun _ h => absurd h List.not_mem_nil⟩) ab_q389
-- AirBed$Sim.begin
theorem ab_h390 (hX : ab_XF X) : ab_Con ab_tab (ab_JX X) ab_s390 := ab_con (M := am_m63) (cl := [ab_s391]) (mdo := [(148, 1), (148, 3), (148, 4), (148, 5), (148, 6), (148, 7)]) rfl (ab_JX_fr hX rfl) (List.forall_mem_cons.mpr ⟨ab_h391 hX, fun _ h => absurd h List.not_mem_nil⟩) ab_q390
-- AirBed.wouldBeSeen
theorem ab_hw388 (hX : ab_XF X) (i l : Int32) (h : am_H) (i0 : 0 ≤ i.toInt) (i1 : i.toInt ≤ 23) (l0 : -1 ≤ l.toInt) (l1 : l.toInt ≤ 5) (hI : ab_Inv (ab_hi ab_tab) h) (hJ : ab_JX X h) (hp : ab_gPl h ab_s388.2.2.1) (hk : ¬ h 143 i.toNatClampNeg = .int 2) : am_Ek false am_G0 am_m134 0 (lv_args 0 [.ref 0, .int i, .int l]) [] am_ks0 h 0 0 (fun r ks h' => ks = am_ks0 ∧ ab_Inv (ab_hi ab_tab) h' ∧ ab_JX X h' ∧ ab_Fr ab_s388.2.2.2.1 h h' ∧ ∃ c ∈ ab_s388.2.2.2.2, ab_gC c [.ref 0, .int i, .int l] r h') :=
  ab_run (M := am_m134) (cl := [ab_s389, ab_s390]) (mdo := [(148, 3)]) (hs := [11]) (ab_JX_fr hX rfl) (List.forall_mem_cons.mpr ⟨ab_h389 hX, List.forall_mem_cons.mpr ⟨ab_h390 hX, fun _ h => absurd h List.not_mem_nil⟩⟩) ⟨⟨0, rfl, List.mem_singleton.mpr rfl⟩, ab_i_ok i0 i1, ab_i_ok l0 l1, trivial⟩ hI hJ hp (fun t ht => (List.mem_singleton.mp ht) ▸ ab_wbs_hole hX (sg := [ab_s216]) (List.forall_mem_cons.mpr ⟨ab_h216 hX, fun _ h => absurd h List.not_mem_nil⟩) (by decide) (fun x hx => by cases hx; exact hk) (by decide +kernel) (by decide +kernel) (by decide +kernel)) ab_q388
-- AirBed.fitsLeak
theorem ab_h386 (hX : ab_XF X) : ab_Con ab_tab (ab_JX X) ab_s386 := ab_conH (M := am_m132) (cl := [ab_s270]) (mdo := []) (hs := [9]) rfl (ab_JX_fr hX rfl) (List.forall_mem_cons.mpr ⟨ab_h270 hX, fun _ h => absurd h List.not_mem_nil⟩) (fun as h0 _ t ht => (List.mem_singleton.mp ht) ▸ ab_fit_hole (sw := ab_s388) (ab_hw388 hX) (by decide +kernel) (by decide +kernel) (by decide +kernel) (by decide +kernel)) ab_q386
-- AirBed.fits
theorem ab_h51 (hX : ab_XF X) : ab_Con ab_tab (ab_JX X) ab_s51 := ab_con (M := am_m129) (cl := [ab_s269, ab_s384, ab_s385, ab_s386]) (mdo := []) rfl (ab_JX_fr hX rfl) (List.forall_mem_cons.mpr ⟨ab_h269 hX, List.forall_mem_cons.mpr ⟨ab_h384 hX, List.forall_mem_cons.mpr ⟨ab_h385 hX, List.forall_mem_cons.mpr ⟨ab_h386 hX, fun _ h => absurd h List.not_mem_nil⟩⟩⟩⟩) ab_q51
-- AirBed.chance
theorem ab_h53 (hX : ab_XF X) : ab_Con ab_tab (ab_JX X) ab_s53 := ab_con (M := am_m135) (cl := [ab_s126, ab_s127, ab_s151, ab_s152, ab_s200, ab_s229, ab_s178]) (mdo := []) rfl (ab_JX_fr hX rfl) (List.forall_mem_cons.mpr ⟨ab_h126 hX, List.forall_mem_cons.mpr ⟨ab_h127 hX, List.forall_mem_cons.mpr ⟨ab_h151 hX, List.forall_mem_cons.mpr ⟨ab_h152 hX, List.forall_mem_cons.mpr ⟨ab_h200 hX, List.forall_mem_cons.mpr ⟨ab_h229 hX, List.forall_mem_cons.mpr ⟨ab_h178 hX, fun _ h => absurd h List.not_mem_nil⟩⟩⟩⟩⟩⟩⟩) ab_q53
-- AirBed.isWithin
theorem ab_h273 (hX : ab_XF X) : ab_Con ab_tab (ab_JX X) ab_s273 := ab_con (M := am_m62) (cl := []) (mdo := []) rfl (ab_JX_fr hX rfl) (fun _ h => absurd h List.not_mem_nil) ab_q273
-- AirBed.isWithin
theorem ab_h274 (hX : ab_XF X) : ab_Con ab_tab (ab_JX X) ab_s274 := ab_con (M := am_m62) (cl := []) (mdo := []) rfl (ab_JX_fr hX rfl) (fun _ h => absurd h List.not_mem_nil) ab_q274
-- AirBed.tried
theorem ab_h55 (hX : ab_XF X) : ab_Con ab_tab (ab_JX X) ab_s55 := ab_con (M := am_m136) (cl := [ab_s151, ab_s152, ab_s273, ab_s274, ab_s178]) (mdo := [(148, 3), (148, 4), (148, 5)]) rfl (ab_JX_fr hX rfl) (List.forall_mem_cons.mpr ⟨ab_h151 hX, List.forall_mem_cons.mpr ⟨ab_h152 hX, List.forall_mem_cons.mpr ⟨ab_h273 hX, List.forall_mem_cons.mpr ⟨ab_h274 hX, List.forall_mem_cons.mpr ⟨ab_h178 hX, fun _ h => absurd h List.not_mem_nil⟩⟩⟩⟩⟩) ab_q55
-- AirBed$State.copy
theorem ab_h278 (hX : ab_XF X) : ab_Con ab_tab (ab_JX X) ab_s278 := ab_con (M := am_m64) (cl := []) (mdo := [(48, 1), (48, 2), (48, 3), (48, 4), (48, 5), (49, 0), (50, 0), (51, 0)]) rfl (ab_JX_fr hX rfl) (fun _ h => absurd h List.not_mem_nil) ab_q278
-- AirBed$History.pop
theorem ab_h277 (hX : ab_XF X) : ab_Con ab_tab (ab_JX X) ab_s277 := ab_con (M := am_m138) (cl := [ab_s278]) (mdo := [(60, 2), (60, 3)]) rfl (ab_JX_fr hX rfl) (List.forall_mem_cons.mpr ⟨ab_h278 hX, fun _ h => absurd h List.not_mem_nil⟩) ab_q277
-- AirBed.undo
theorem ab_h57 (hX : ab_XF X) : ab_Con ab_tab (ab_JX X) ab_s57 := ab_con (M := am_m137) (cl := [ab_s277]) (mdo := []) rfl (ab_JX_fr hX rfl) (List.forall_mem_cons.mpr ⟨ab_h277 hX, fun _ h => absurd h List.not_mem_nil⟩) ab_q57
-- AirBed$State.copy
theorem ab_h280 (hX : ab_XF X) : ab_Con ab_tab (ab_JX X) ab_s280 := ab_con (M := am_m64) (cl := []) (mdo := [(56, 1), (56, 2), (56, 3), (56, 4), (56, 5), (57, 0), (58, 0), (59, 0)]) rfl (ab_JX_fr hX rfl) (fun _ h => absurd h List.not_mem_nil) ab_q280
-- AirBed.keep
theorem ab_h59 (hX : ab_XF X) : ab_Con ab_tab (ab_JX X) ab_s59 := ab_con (M := am_m139) (cl := [ab_s280]) (mdo := [(0, 9)]) rfl (ab_JX_fr hX rfl) (List.forall_mem_cons.mpr ⟨ab_h280 hX, fun _ h => absurd h List.not_mem_nil⟩) ab_q59
-- AirBed$State.copy
theorem ab_h282 (hX : ab_XF X) : ab_Con ab_tab (ab_JX X) ab_s282 := ab_con (M := am_m64) (cl := []) (mdo := [(48, 1), (48, 2), (48, 3), (48, 4), (48, 5), (49, 0), (50, 0), (51, 0)]) rfl (ab_JX_fr hX rfl) (fun _ h => absurd h List.not_mem_nil) ab_q282
-- AirBed.back
theorem ab_h61 (hX : ab_XF X) : ab_Con ab_tab (ab_JX X) ab_s61 := ab_con (M := am_m140) (cl := [ab_s131, ab_s282]) (mdo := []) rfl (ab_JX_fr hX rfl) (List.forall_mem_cons.mpr ⟨ab_h131 hX, List.forall_mem_cons.mpr ⟨ab_h282 hX, fun _ h => absurd h List.not_mem_nil⟩⟩) ab_q61
-- AirBed.count
theorem ab_h63 (hX : ab_XF X) : ab_Con ab_tab (ab_JX X) ab_s63 := ab_con (M := am_m141) (cl := [ab_s270]) (mdo := []) rfl (ab_JX_fr hX rfl) (List.forall_mem_cons.mpr ⟨ab_h270 hX, fun _ h => absurd h List.not_mem_nil⟩) ab_q63
end ABX
