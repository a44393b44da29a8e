theorem am_all_app {f : am_I → Bool} {a b : List am_I} (ha : a.all f = true) (hb : b.all f = true) : (a ++ b).all f = true := by rw [List.all_append, ha, hb]; rfl
set_option maxRecDepth 1000000 in
theorem am_ck75 : am_m75.2.2.2.all (am_chkI am_m75) = true := by decide +kernel
set_option maxRecDepth 1000000 in
theorem am_ck76_0 : am_m76_c0.all (am_chkI am_m76) = true := by decide +kernel
set_option maxRecDepth 1000000 in
theorem am_ck76_1 : am_m76_c1.all (am_chkI am_m76) = true := by decide +kernel
theorem am_ck76 : am_m76.2.2.2.all (am_chkI am_m76) = true := (am_all_app am_ck76_0 am_ck76_1)
set_option maxRecDepth 1000000 in
theorem am_ck77_0 : am_m77_c0.all (am_chkI am_m77) = true := by decide +kernel
set_option maxRecDepth 1000000 in
theorem am_ck77_1 : am_m77_c1.all (am_chkI am_m77) = true := by decide +kernel
set_option maxRecDepth 1000000 in
theorem am_ck77_2 : am_m77_c2.all (am_chkI am_m77) = true := by decide +kernel
set_option maxRecDepth 1000000 in
theorem am_ck77_3 : am_m77_c3.all (am_chkI am_m77) = true := by decide +kernel
set_option maxRecDepth 1000000 in
theorem am_ck77_4 : am_m77_c4.all (am_chkI am_m77) = true := by decide +kernel
