set_option maxRecDepth 1000000 in
theorem am_ckL6 : am_m254_c6.all (am_chkI am_m254) = true := by decide +kernel
set_option maxRecDepth 1000000 in
theorem am_ckL7 : am_m254_c7.all (am_chkI am_m254) = true := by decide +kernel
set_option maxRecDepth 1000000 in
theorem am_ckL8 : am_m254_c8.all (am_chkI am_m254) = true := by decide +kernel
set_option maxRecDepth 1000000 in
theorem am_ckL9 : am_m254_c9.all (am_chkI am_m254) = true := by decide +kernel
set_option maxRecDepth 1000000 in
theorem am_ckL10 : am_m254_c10.all (am_chkI am_m254) = true := by decide +kernel
set_option maxRecDepth 1000000 in
theorem am_ckL11 : am_m254_c11.all (am_chkI am_m254) = true := by decide +kernel
