set_option maxRecDepth 1000000 in
theorem am_ckL3 : am_m136_c3.all (am_chkI am_m136) = true := by decide +kernel
set_option maxRecDepth 1000000 in
theorem am_ckL4 : am_m136_c4.all (am_chkI am_m136) = true := by decide +kernel
set_option maxRecDepth 1000000 in
theorem am_ckL5 : am_m136_c5.all (am_chkI am_m136) = true := by decide +kernel
set_option maxRecDepth 1000000 in
theorem am_ckL6 : am_m136_c6.all (am_chkI am_m136) = true := by decide +kernel
set_option maxRecDepth 1000000 in
theorem am_ckL7 : am_m136_c7.all (am_chkI am_m136) = true := by decide +kernel
set_option maxRecDepth 1000000 in
theorem am_ckL8 : am_m136_c8.all (am_chkI am_m136) = true := by decide +kernel
