set_option maxRecDepth 1000000 in
theorem am_ck77_5 : am_m77_c5.all (am_chkI am_m77) = true := by decide +kernel
set_option maxRecDepth 1000000 in
theorem am_ck77_6 : am_m77_c6.all (am_chkI am_m77) = true := by decide +kernel
set_option maxRecDepth 1000000 in
theorem am_ck77_7 : am_m77_c7.all (am_chkI am_m77) = true := by decide +kernel
set_option maxRecDepth 1000000 in
theorem am_ck77_8 : am_m77_c8.all (am_chkI am_m77) = true := by decide +kernel
set_option maxRecDepth 1000000 in
theorem am_ck77_9 : am_m77_c9.all (am_chkI am_m77) = true := by decide +kernel
theorem am_ck77 : am_m77.2.2.2.all (am_chkI am_m77) = true := (am_all_app am_ck77_0 (am_all_app am_ck77_1 (am_all_app am_ck77_2 (am_all_app am_ck77_3 (am_all_app am_ck77_4 (am_all_app am_ck77_5 (am_all_app am_ck77_6 (am_all_app am_ck77_7 (am_all_app am_ck77_8 am_ck77_9)))))))))
set_option maxRecDepth 1000000 in
theorem am_ck78 : am_m78.2.2.2.all (am_chkI am_m78) = true := by decide +kernel
set_option maxRecDepth 1000000 in
theorem am_ck79_0 : am_m79_c0.all (am_chkI am_m79) = true := by decide +kernel
set_option maxRecDepth 1000000 in
theorem am_ck79_1 : am_m79_c1.all (am_chkI am_m79) = true := by decide +kernel
theorem am_ck79 : am_m79.2.2.2.all (am_chkI am_m79) = true := (am_all_app am_ck79_0 am_ck79_1)
