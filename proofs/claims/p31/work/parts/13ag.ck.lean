set_option maxRecDepth 1000000 in
theorem am_ck101_1 : am_m101_c1.all (am_chkI am_m101) = true := by decide +kernel
theorem am_ck101 : am_m101.2.2.2.all (am_chkI am_m101) = true := (am_all_app am_ck101_0 am_ck101_1)
set_option maxRecDepth 1000000 in
theorem am_ck102_0 : am_m102_c0.all (am_chkI am_m102) = true := by decide +kernel
set_option maxRecDepth 1000000 in
theorem am_ck102_1 : am_m102_c1.all (am_chkI am_m102) = true := by decide +kernel
theorem am_ck102 : am_m102.2.2.2.all (am_chkI am_m102) = true := (am_all_app am_ck102_0 am_ck102_1)
set_option maxRecDepth 1000000 in
theorem am_ck103 : am_m103.2.2.2.all (am_chkI am_m103) = true := by decide +kernel
set_option maxRecDepth 1000000 in
theorem am_ck104 : am_m104.2.2.2.all (am_chkI am_m104) = true := by decide +kernel
set_option maxRecDepth 1000000 in
theorem am_ck105 : am_m105.2.2.2.all (am_chkI am_m105) = true := by decide +kernel
set_option maxRecDepth 1000000 in
theorem am_ck106 : am_m106.2.2.2.all (am_chkI am_m106) = true := by decide +kernel
set_option maxRecDepth 1000000 in
theorem am_ck107 : am_m107.2.2.2.all (am_chkI am_m107) = true := by decide +kernel
set_option maxRecDepth 1000000 in
theorem am_ck108 : am_m108.2.2.2.all (am_chkI am_m108) = true := by decide +kernel
set_option maxRecDepth 1000000 in
theorem am_ck109_0 : am_m109_c0.all (am_chkI am_m109) = true := by decide +kernel
set_option maxRecDepth 1000000 in
theorem am_ck109_1 : am_m109_c1.all (am_chkI am_m109) = true := by decide +kernel
theorem am_ck109 : am_m109.2.2.2.all (am_chkI am_m109) = true := (am_all_app am_ck109_0 am_ck109_1)
set_option maxRecDepth 1000000 in
theorem am_ck110 : am_m110.2.2.2.all (am_chkI am_m110) = true := by decide +kernel
set_option maxRecDepth 1000000 in
theorem am_ck111 : am_m111.2.2.2.all (am_chkI am_m111) = true := by decide +kernel
set_option maxRecDepth 1000000 in
theorem am_ck112 : am_m112.2.2.2.all (am_chkI am_m112) = true := by decide +kernel
set_option maxRecDepth 1000000 in
theorem am_ck113 : am_m113.2.2.2.all (am_chkI am_m113) = true := by decide +kernel
set_option maxRecDepth 1000000 in
theorem am_ck114_0 : am_m114_c0.all (am_chkI am_m114) = true := by decide +kernel
set_option maxRecDepth 1000000 in
theorem am_ck114_1 : am_m114_c1.all (am_chkI am_m114) = true := by decide +kernel
theorem am_ck114 : am_m114.2.2.2.all (am_chkI am_m114) = true := (am_all_app am_ck114_0 am_ck114_1)
set_option maxRecDepth 1000000 in
theorem am_ck115 : am_m115.2.2.2.all (am_chkI am_m115) = true := by decide +kernel
set_option maxRecDepth 1000000 in
theorem am_ck116_0 : am_m116_c0.all (am_chkI am_m116) = true := by decide +kernel
set_option maxRecDepth 1000000 in
theorem am_ck116_1 : am_m116_c1.all (am_chkI am_m116) = true := by decide +kernel
theorem am_ck116 : am_m116.2.2.2.all (am_chkI am_m116) = true := (am_all_app am_ck116_0 am_ck116_1)
