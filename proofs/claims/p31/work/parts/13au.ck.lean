set_option maxRecDepth 1000000 in
theorem am_ckL12 : am_m254_c12.all (am_chkI am_m254) = true := by decide +kernel
set_option maxRecDepth 1000000 in
theorem am_ckL13 : am_m254_c13.all (am_chkI am_m254) = true := by decide +kernel
