set_option maxRecDepth 1000000 in
theorem am_ck131 : am_m131.2.2.2.all (am_chkI am_m131) = true := by decide +kernel
set_option maxRecDepth 1000000 in
theorem am_ck132_0 : am_m132_c0.all (am_chkI am_m132) = true := by decide +kernel
set_option maxRecDepth 1000000 in
theorem am_ck132_1 : am_m132_c1.all (am_chkI am_m132) = true := by decide +kernel
theorem am_ck132 : am_m132.2.2.2.all (am_chkI am_m132) = true := (am_all_app am_ck132_0 am_ck132_1)
set_option maxRecDepth 1000000 in
theorem am_ckL0 : am_m133_c0.all (am_chkI am_m133) = true := by decide +kernel
set_option maxRecDepth 1000000 in
theorem am_ckL1 : am_m133_c1.all (am_chkI am_m133) = true := by decide +kernel
set_option maxRecDepth 1000000 in
theorem am_ckL2 : am_m133_c2.all (am_chkI am_m133) = true := by decide +kernel
set_option maxRecDepth 1000000 in
theorem am_ckL3 : am_m133_c3.all (am_chkI am_m133) = true := by decide +kernel
set_option maxRecDepth 1000000 in
theorem am_ckL4 : am_m133_c4.all (am_chkI am_m133) = true := by decide +kernel
