set_option maxRecDepth 1000000 in
theorem am_ck83 : am_m83.2.2.2.all (am_chkI am_m83) = true := by decide +kernel
set_option maxRecDepth 1000000 in
theorem am_ck84 : am_m84.2.2.2.all (am_chkI am_m84) = true := by decide +kernel
set_option maxRecDepth 1000000 in
theorem am_ck85 : am_m85.2.2.2.all (am_chkI am_m85) = true := by decide +kernel
set_option maxRecDepth 1000000 in
theorem am_ck86 : am_m86.2.2.2.all (am_chkI am_m86) = true := by decide +kernel
set_option maxRecDepth 1000000 in
theorem am_ck87 : am_m87.2.2.2.all (am_chkI am_m87) = true := by decide +kernel
set_option maxRecDepth 1000000 in
theorem am_ck88 : am_m88.2.2.2.all (am_chkI am_m88) = true := by decide +kernel
set_option maxRecDepth 1000000 in
theorem am_ck89_0 : am_m89_c0.all (am_chkI am_m89) = true := by decide +kernel
set_option maxRecDepth 1000000 in
theorem am_ck89_1 : am_m89_c1.all (am_chkI am_m89) = true := by decide +kernel
theorem am_ck89 : am_m89.2.2.2.all (am_chkI am_m89) = true := (am_all_app am_ck89_0 am_ck89_1)
set_option maxRecDepth 1000000 in
theorem am_ck90 : am_m90.2.2.2.all (am_chkI am_m90) = true := by decide +kernel
set_option maxRecDepth 1000000 in
theorem am_ck91 : am_m91.2.2.2.all (am_chkI am_m91) = true := by decide +kernel
set_option maxRecDepth 1000000 in
theorem am_ck92 : am_m92.2.2.2.all (am_chkI am_m92) = true := by decide +kernel
set_option maxRecDepth 1000000 in
theorem am_ck93 : am_m93.2.2.2.all (am_chkI am_m93) = true := by decide +kernel
set_option maxRecDepth 1000000 in
theorem am_ck94 : am_m94.2.2.2.all (am_chkI am_m94) = true := by decide +kernel
set_option maxRecDepth 1000000 in
theorem am_ck95 : am_m95.2.2.2.all (am_chkI am_m95) = true := by decide +kernel
set_option maxRecDepth 1000000 in
theorem am_ck96 : am_m96.2.2.2.all (am_chkI am_m96) = true := by decide +kernel
set_option maxRecDepth 1000000 in
theorem am_ck97 : am_m97.2.2.2.all (am_chkI am_m97) = true := by decide +kernel
set_option maxRecDepth 1000000 in
theorem am_ck98 : am_m98.2.2.2.all (am_chkI am_m98) = true := by decide +kernel
set_option maxRecDepth 1000000 in
theorem am_ck99 : am_m99.2.2.2.all (am_chkI am_m99) = true := by decide +kernel
set_option maxRecDepth 1000000 in
theorem am_ck100 : am_m100.2.2.2.all (am_chkI am_m100) = true := by decide +kernel
set_option maxRecDepth 1000000 in
theorem am_ck101_0 : am_m101_c0.all (am_chkI am_m101) = true := by decide +kernel
