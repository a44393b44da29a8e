set_option maxRecDepth 1000000 in
theorem am_ck131 : am_m131.2.2.2.all (am_chkI am_m131) = true := by decide +kernel
set_option maxRecDepth 1000000 in
theorem am_ck132_0 : am_m132_c0.all (am_chkI am_m132) = true := by decide +kernel
set_option maxRecDepth 1000000 in
theorem am_ck132_1 : am_m132_c1.all (am_chkI am_m132) = true := by decide +kernel
theorem am_ck132 : am_m132.2.2.2.all (am_chkI am_m132) = true := (am_all_app am_ck132_0 am_ck132_1)
set_option maxRecDepth 1000000 in
theorem am_ck133_0 : am_m133_c0.all (am_chkI am_m133) = true := by decide +kernel
set_option maxRecDepth 1000000 in
theorem am_ck133_1 : am_m133_c1.all (am_chkI am_m133) = true := by decide +kernel
set_option maxRecDepth 1000000 in
theorem am_ck133_2 : am_m133_c2.all (am_chkI am_m133) = true := by decide +kernel
theorem am_ck133 : am_m133.2.2.2.all (am_chkI am_m133) = true := (am_all_app am_ck133_0 (am_all_app am_ck133_1 am_ck133_2))
set_option maxRecDepth 1000000 in
theorem am_ck134 : am_m134.2.2.2.all (am_chkI am_m134) = true := by decide +kernel
set_option maxRecDepth 1000000 in
theorem am_ck135 : am_m135.2.2.2.all (am_chkI am_m135) = true := by decide +kernel
set_option maxRecDepth 1000000 in
theorem am_ckL0 : am_m136_c0.all (am_chkI am_m136) = true := by decide +kernel
set_option maxRecDepth 1000000 in
theorem am_ckL1 : am_m136_c1.all (am_chkI am_m136) = true := by decide +kernel
set_option maxRecDepth 1000000 in
theorem am_ckL2 : am_m136_c2.all (am_chkI am_m136) = true := by decide +kernel
