set_option maxRecDepth 1000000 in
theorem am_ck142_3 : am_m142_c3.all (am_chkI am_m142) = true := by decide +kernel
set_option maxRecDepth 1000000 in
theorem am_ck142_4 : am_m142_c4.all (am_chkI am_m142) = true := by decide +kernel
set_option maxRecDepth 1000000 in
theorem am_ck142_5 : am_m142_c5.all (am_chkI am_m142) = true := by decide +kernel
set_option maxRecDepth 1000000 in
theorem am_ck142_6 : am_m142_c6.all (am_chkI am_m142) = true := by decide +kernel
set_option maxRecDepth 1000000 in
theorem am_ck142_7 : am_m142_c7.all (am_chkI am_m142) = true := by decide +kernel
set_option maxRecDepth 1000000 in
theorem am_ck142_8 : am_m142_c8.all (am_chkI am_m142) = true := by decide +kernel
