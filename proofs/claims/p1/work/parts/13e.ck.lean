set_option maxRecDepth 1000000 in
theorem am_ck100 : am_m100.2.2.2.all (am_chkI am_m100) = true := by decide +kernel
set_option maxRecDepth 1000000 in
theorem am_ck101 : am_m101.2.2.2.all (am_chkI am_m101) = true := by decide +kernel
set_option maxRecDepth 1000000 in
theorem am_ck102 : am_m102.2.2.2.all (am_chkI am_m102) = true := by decide +kernel
set_option maxRecDepth 1000000 in
theorem am_ck103 : am_m103.2.2.2.all (am_chkI am_m103) = true := by decide +kernel
set_option maxRecDepth 1000000 in
theorem am_ck104 : am_m104.2.2.2.all (am_chkI am_m104) = true := by decide +kernel
set_option maxRecDepth 1000000 in
theorem am_ck105 : am_m105.2.2.2.all (am_chkI am_m105) = true := by decide +kernel
set_option maxRecDepth 1000000 in
theorem am_ck106 : am_m106.2.2.2.all (am_chkI am_m106) = true := by decide +kernel
set_option maxRecDepth 1000000 in
theorem am_ck107 : am_m107.2.2.2.all (am_chkI am_m107) = true := by decide +kernel
set_option maxRecDepth 1000000 in
theorem am_ck108 : am_m108.2.2.2.all (am_chkI am_m108) = true := by decide +kernel
set_option maxRecDepth 1000000 in
theorem am_ck109 : am_m109.2.2.2.all (am_chkI am_m109) = true := by decide +kernel
set_option maxRecDepth 1000000 in
theorem am_ck110 : am_m110.2.2.2.all (am_chkI am_m110) = true := by decide +kernel
set_option maxRecDepth 1000000 in
theorem am_ck111 : am_m111.2.2.2.all (am_chkI am_m111) = true := by decide +kernel
set_option maxRecDepth 1000000 in
theorem am_ck112 : am_m112.2.2.2.all (am_chkI am_m112) = true := by decide +kernel
set_option maxRecDepth 1000000 in
theorem am_ck113 : am_m113.2.2.2.all (am_chkI am_m113) = true := by decide +kernel
set_option maxRecDepth 1000000 in
theorem am_ck114 : am_m114.2.2.2.all (am_chkI am_m114) = true := by decide +kernel
set_option maxRecDepth 1000000 in
theorem am_ck115 : am_m115.2.2.2.all (am_chkI am_m115) = true := by decide +kernel
set_option maxRecDepth 1000000 in
theorem am_ck116 : am_m116.2.2.2.all (am_chkI am_m116) = true := by decide +kernel
set_option maxRecDepth 1000000 in
theorem am_ck117 : am_m117.2.2.2.all (am_chkI am_m117) = true := by decide +kernel
set_option maxRecDepth 1000000 in
theorem am_ck118 : am_m118.2.2.2.all (am_chkI am_m118) = true := by decide +kernel
set_option maxRecDepth 1000000 in
theorem am_ck119 : am_m119.2.2.2.all (am_chkI am_m119) = true := by decide +kernel
set_option maxRecDepth 1000000 in
theorem am_ck120 : am_m120.2.2.2.all (am_chkI am_m120) = true := by decide +kernel
set_option maxRecDepth 1000000 in
theorem am_ck121 : am_m121.2.2.2.all (am_chkI am_m121) = true := by decide +kernel
set_option maxRecDepth 1000000 in
theorem am_ck122 : am_m122.2.2.2.all (am_chkI am_m122) = true := by decide +kernel
set_option maxRecDepth 1000000 in
theorem am_ck123 : am_m123.2.2.2.all (am_chkI am_m123) = true := by decide +kernel
set_option maxRecDepth 1000000 in
theorem am_ck124 : am_m124.2.2.2.all (am_chkI am_m124) = true := by decide +kernel
