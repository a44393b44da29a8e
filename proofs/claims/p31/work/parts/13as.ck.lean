set_option maxRecDepth 1000000 in
theorem am_ck253_1 : am_m253_c1.all (am_chkI am_m253) = true := by decide +kernel
theorem am_ck253 : am_m253.2.2.2.all (am_chkI am_m253) = true := (am_all_app am_ck253_0 am_ck253_1)
set_option maxRecDepth 1000000 in
theorem am_ckL0 : am_m254_c0.all (am_chkI am_m254) = true := by decide +kernel
set_option maxRecDepth 1000000 in
theorem am_ckL1 : am_m254_c1.all (am_chkI am_m254) = true := by decide +kernel
set_option maxRecDepth 1000000 in
theorem am_ckL2 : am_m254_c2.all (am_chkI am_m254) = true := by decide +kernel
set_option maxRecDepth 1000000 in
theorem am_ckL3 : am_m254_c3.all (am_chkI am_m254) = true := by decide +kernel
set_option maxRecDepth 1000000 in
theorem am_ckL4 : am_m254_c4.all (am_chkI am_m254) = true := by decide +kernel
set_option maxRecDepth 1000000 in
theorem am_ckL5 : am_m254_c5.all (am_chkI am_m254) = true := by decide +kernel
