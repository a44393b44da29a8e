set_option maxRecDepth 1000000 in
theorem am_ck135_0 : am_m135_c0.all (am_chkI am_m135) = true := by decide +kernel
set_option maxRecDepth 1000000 in
theorem am_ck135_1 : am_m135_c1.all (am_chkI am_m135) = true := by decide +kernel
theorem am_ck135 : am_m135.2.2.2.all (am_chkI am_m135) = true := (am_all_app am_ck135_0 am_ck135_1)
set_option maxRecDepth 1000000 in
theorem am_ck136_0 : am_m136_c0.all (am_chkI am_m136) = true := by decide +kernel
set_option maxRecDepth 1000000 in
theorem am_ck136_1 : am_m136_c1.all (am_chkI am_m136) = true := by decide +kernel
theorem am_ck136 : am_m136.2.2.2.all (am_chkI am_m136) = true := (am_all_app am_ck136_0 am_ck136_1)
set_option maxRecDepth 1000000 in
theorem am_ck137 : am_m137.2.2.2.all (am_chkI am_m137) = true := by decide +kernel
set_option maxRecDepth 1000000 in
theorem am_ck138 : am_m138.2.2.2.all (am_chkI am_m138) = true := by decide +kernel
set_option maxRecDepth 1000000 in
theorem am_ck139 : am_m139.2.2.2.all (am_chkI am_m139) = true := by decide +kernel
set_option maxRecDepth 1000000 in
theorem am_ck140 : am_m140.2.2.2.all (am_chkI am_m140) = true := by decide +kernel
set_option maxRecDepth 1000000 in
theorem am_ck141_0 : am_m141_c0.all (am_chkI am_m141) = true := by decide +kernel
set_option maxRecDepth 1000000 in
theorem am_ck141_1 : am_m141_c1.all (am_chkI am_m141) = true := by decide +kernel
theorem am_ck141 : am_m141.2.2.2.all (am_chkI am_m141) = true := (am_all_app am_ck141_0 am_ck141_1)
set_option maxRecDepth 1000000 in
theorem am_ck142_0 : am_m142_c0.all (am_chkI am_m142) = true := by decide +kernel
set_option maxRecDepth 1000000 in
theorem am_ck142_1 : am_m142_c1.all (am_chkI am_m142) = true := by decide +kernel
set_option maxRecDepth 1000000 in
theorem am_ck142_2 : am_m142_c2.all (am_chkI am_m142) = true := by decide +kernel
