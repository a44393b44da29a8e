set_option maxRecDepth 1000000 in
theorem am_ck125 : am_m125.2.2.2.all (am_chkI am_m125) = true := by decide +kernel
set_option maxRecDepth 1000000 in
theorem am_ck126 : am_m126.2.2.2.all (am_chkI am_m126) = true := by decide +kernel
set_option maxRecDepth 1000000 in
theorem am_ck127 : am_m127.2.2.2.all (am_chkI am_m127) = true := by decide +kernel
set_option maxRecDepth 1000000 in
theorem am_ck128 : am_m128.2.2.2.all (am_chkI am_m128) = true := by decide +kernel
set_option maxRecDepth 1000000 in
theorem am_ck129 : am_m129.2.2.2.all (am_chkI am_m129) = true := by decide +kernel
set_option maxRecDepth 1000000 in
theorem am_ck130 : am_m130.2.2.2.all (am_chkI am_m130) = true := by decide +kernel
set_option maxRecDepth 1000000 in
theorem am_ck131 : am_m131.2.2.2.all (am_chkI am_m131) = true := by decide +kernel
set_option maxRecDepth 1000000 in
theorem am_ck132 : am_m132.2.2.2.all (am_chkI am_m132) = true := by decide +kernel
set_option maxRecDepth 1000000 in
theorem am_ckL0 : am_m133_c0.all (am_chkI am_m133) = true := by decide +kernel
set_option maxRecDepth 1000000 in
theorem am_ckL1 : am_m133_c1.all (am_chkI am_m133) = true := by decide +kernel
set_option maxRecDepth 1000000 in
theorem am_ckL2 : am_m133_c2.all (am_chkI am_m133) = true := by decide +kernel
set_option maxRecDepth 1000000 in
theorem am_ckL3 : am_m133_c3.all (am_chkI am_m133) = true := by decide +kernel
set_option maxRecDepth 1000000 in
theorem am_ckL4 : am_m133_c4.all (am_chkI am_m133) = true := by decide +kernel
set_option maxRecDepth 1000000 in
theorem am_ckL5 : am_m133_c5.all (am_chkI am_m133) = true := by decide +kernel
set_option maxRecDepth 1000000 in
theorem am_ckL6 : am_m133_c6.all (am_chkI am_m133) = true := by decide +kernel
set_option maxRecDepth 1000000 in
theorem am_ckL7 : am_m133_c7.all (am_chkI am_m133) = true := by decide +kernel
set_option maxRecDepth 1000000 in
theorem am_ckL8 : am_m133_c8.all (am_chkI am_m133) = true := by decide +kernel
set_option maxRecDepth 1000000 in
theorem am_ckL9 : am_m133_c9.all (am_chkI am_m133) = true := by decide +kernel
set_option maxRecDepth 1000000 in
theorem am_ckL10 : am_m133_c10.all (am_chkI am_m133) = true := by decide +kernel
set_option maxRecDepth 1000000 in
theorem am_ckL11 : am_m133_c11.all (am_chkI am_m133) = true := by decide +kernel
set_option maxRecDepth 1000000 in
theorem am_ckL12 : am_m133_c12.all (am_chkI am_m133) = true := by decide +kernel
set_option maxRecDepth 1000000 in
theorem am_ckL13 : am_m133_c13.all (am_chkI am_m133) = true := by decide +kernel
set_option maxRecDepth 1000000 in
theorem am_ckL14 : am_m133_c14.all (am_chkI am_m133) = true := by decide +kernel
