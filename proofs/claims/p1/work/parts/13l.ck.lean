set_option maxRecDepth 1000000 in
theorem am_ckL9 : am_m136_c9.all (am_chkI am_m136) = true := by decide +kernel
set_option maxRecDepth 1000000 in
theorem am_ckL10 : am_m136_c10.all (am_chkI am_m136) = true := by decide +kernel
set_option maxRecDepth 1000000 in
theorem am_ckL11 : am_m136_c11.all (am_chkI am_m136) = true := by decide +kernel
set_option maxRecDepth 1000000 in
theorem am_ckL12 : am_m136_c12.all (am_chkI am_m136) = true := by decide +kernel
set_option maxRecDepth 1000000 in
theorem am_ckL13 : am_m136_c13.all (am_chkI am_m136) = true := by decide +kernel
set_option maxRecDepth 1000000 in
theorem am_ckL14 : am_m136_c14.all (am_chkI am_m136) = true := by decide +kernel
