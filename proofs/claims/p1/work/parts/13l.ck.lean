set_option maxRecDepth 1000000 in
theorem am_ckL11 : am_m133_c11.all (am_chkI am_m133) = true := by decide +kernel
set_option maxRecDepth 1000000 in
theorem am_ckL12 : am_m133_c12.all (am_chkI am_m133) = true := by decide +kernel
set_option maxRecDepth 1000000 in
theorem am_ckL13 : am_m133_c13.all (am_chkI am_m133) = true := by decide +kernel
set_option maxRecDepth 1000000 in
theorem am_ckL14 : am_m133_c14.all (am_chkI am_m133) = true := by decide +kernel
