set_option maxRecDepth 1000000 in
theorem am_ck117_0 : am_m117_c0.all (am_chkI am_m117) = true := by decide +kernel
set_option maxRecDepth 1000000 in
theorem am_ck117_1 : am_m117_c1.all (am_chkI am_m117) = true := by decide +kernel
theorem am_ck117 : am_m117.2.2.2.all (am_chkI am_m117) = true := (am_all_app am_ck117_0 am_ck117_1)
set_option maxRecDepth 1000000 in
theorem am_ck118_0 : am_m118_c0.all (am_chkI am_m118) = true := by decide +kernel
set_option maxRecDepth 1000000 in
theorem am_ck118_1 : am_m118_c1.all (am_chkI am_m118) = true := by decide +kernel
theorem am_ck118 : am_m118.2.2.2.all (am_chkI am_m118) = true := (am_all_app am_ck118_0 am_ck118_1)
set_option maxRecDepth 1000000 in
theorem am_ck119 : am_m119.2.2.2.all (am_chkI am_m119) = true := by decide +kernel
set_option maxRecDepth 1000000 in
theorem am_ck120 : am_m120.2.2.2.all (am_chkI am_m120) = true := by decide +kernel
set_option maxRecDepth 1000000 in
theorem am_ck121 : am_m121.2.2.2.all (am_chkI am_m121) = true := by decide +kernel
set_option maxRecDepth 1000000 in
theorem am_ck122 : am_m122.2.2.2.all (am_chkI am_m122) = true := by decide +kernel
set_option maxRecDepth 1000000 in
theorem am_ck123 : am_m123.2.2.2.all (am_chkI am_m123) = true := by decide +kernel
set_option maxRecDepth 1000000 in
theorem am_ck124 : am_m124.2.2.2.all (am_chkI am_m124) = true := by decide +kernel
set_option maxRecDepth 1000000 in
theorem am_ck125 : am_m125.2.2.2.all (am_chkI am_m125) = true := by decide +kernel
set_option maxRecDepth 1000000 in
theorem am_ck126 : am_m126.2.2.2.all (am_chkI am_m126) = true := by decide +kernel
set_option maxRecDepth 1000000 in
theorem am_ck127 : am_m127.2.2.2.all (am_chkI am_m127) = true := by decide +kernel
set_option maxRecDepth 1000000 in
theorem am_ck128 : am_m128.2.2.2.all (am_chkI am_m128) = true := by decide +kernel
set_option maxRecDepth 1000000 in
theorem am_ck129 : am_m129.2.2.2.all (am_chkI am_m129) = true := by decide +kernel
set_option maxRecDepth 1000000 in
theorem am_ck130 : am_m130.2.2.2.all (am_chkI am_m130) = true := by decide +kernel
set_option maxRecDepth 1000000 in
theorem am_ck131 : am_m131.2.2.2.all (am_chkI am_m131) = true := by decide +kernel
set_option maxRecDepth 1000000 in
theorem am_ck132 : am_m132.2.2.2.all (am_chkI am_m132) = true := by decide +kernel
set_option maxRecDepth 1000000 in
theorem am_ck133 : am_m133.2.2.2.all (am_chkI am_m133) = true := by decide +kernel
set_option maxRecDepth 1000000 in
theorem am_ck134 : am_m134.2.2.2.all (am_chkI am_m134) = true := by decide +kernel
