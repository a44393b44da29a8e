set_option maxRecDepth 1000000 in
theorem am_ck239 : am_m239.2.2.2.all (am_chkI am_m239) = true := by decide +kernel
set_option maxRecDepth 1000000 in
theorem am_ck240 : am_m240.2.2.2.all (am_chkI am_m240) = true := by decide +kernel
set_option maxRecDepth 1000000 in
theorem am_ck241 : am_m241.2.2.2.all (am_chkI am_m241) = true := by decide +kernel
set_option maxRecDepth 1000000 in
theorem am_ck242 : am_m242.2.2.2.all (am_chkI am_m242) = true := by decide +kernel
set_option maxRecDepth 1000000 in
theorem am_ck243 : am_m243.2.2.2.all (am_chkI am_m243) = true := by decide +kernel
set_option maxRecDepth 1000000 in
theorem am_ck244_0 : am_m244_c0.all (am_chkI am_m244) = true := by decide +kernel
set_option maxRecDepth 1000000 in
theorem am_ck244_1 : am_m244_c1.all (am_chkI am_m244) = true := by decide +kernel
theorem am_ck244 : am_m244.2.2.2.all (am_chkI am_m244) = true := (am_all_app am_ck244_0 am_ck244_1)
set_option maxRecDepth 1000000 in
theorem am_ck245 : am_m245.2.2.2.all (am_chkI am_m245) = true := by decide +kernel
set_option maxRecDepth 1000000 in
theorem am_ck246_0 : am_m246_c0.all (am_chkI am_m246) = true := by decide +kernel
set_option maxRecDepth 1000000 in
theorem am_ck246_1 : am_m246_c1.all (am_chkI am_m246) = true := by decide +kernel
theorem am_ck246 : am_m246.2.2.2.all (am_chkI am_m246) = true := (am_all_app am_ck246_0 am_ck246_1)
set_option maxRecDepth 1000000 in
theorem am_ck247_0 : am_m247_c0.all (am_chkI am_m247) = true := by decide +kernel
set_option maxRecDepth 1000000 in
theorem am_ck247_1 : am_m247_c1.all (am_chkI am_m247) = true := by decide +kernel
theorem am_ck247 : am_m247.2.2.2.all (am_chkI am_m247) = true := (am_all_app am_ck247_0 am_ck247_1)
set_option maxRecDepth 1000000 in
theorem am_ck248_0 : am_m248_c0.all (am_chkI am_m248) = true := by decide +kernel
set_option maxRecDepth 1000000 in
theorem am_ck248_1 : am_m248_c1.all (am_chkI am_m248) = true := by decide +kernel
theorem am_ck248 : am_m248.2.2.2.all (am_chkI am_m248) = true := (am_all_app am_ck248_0 am_ck248_1)
set_option maxRecDepth 1000000 in
theorem am_ck249 : am_m249.2.2.2.all (am_chkI am_m249) = true := by decide +kernel
set_option maxRecDepth 1000000 in
theorem am_ck250_0 : am_m250_c0.all (am_chkI am_m250) = true := by decide +kernel
set_option maxRecDepth 1000000 in
theorem am_ck250_1 : am_m250_c1.all (am_chkI am_m250) = true := by decide +kernel
theorem am_ck250 : am_m250.2.2.2.all (am_chkI am_m250) = true := (am_all_app am_ck250_0 am_ck250_1)
set_option maxRecDepth 1000000 in
theorem am_ck251 : am_m251.2.2.2.all (am_chkI am_m251) = true := by decide +kernel
set_option maxRecDepth 1000000 in
theorem am_ck252 : am_m252.2.2.2.all (am_chkI am_m252) = true := by decide +kernel
set_option maxRecDepth 1000000 in
theorem am_ck253_0 : am_m253_c0.all (am_chkI am_m253) = true := by decide +kernel
