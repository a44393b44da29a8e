set_option maxRecDepth 1000000 in
theorem am_ck92_1 : am_m92_c1.all (am_chkI am_m92) = true := by decide +kernel
theorem am_ck92 : am_m92.2.2.2.all (am_chkI am_m92) = true := (am_all_app am_ck92_0 am_ck92_1)
set_option maxRecDepth 1000000 in
theorem am_ck93 : am_m93.2.2.2.all (am_chkI am_m93) = true := by decide +kernel
set_option maxRecDepth 1000000 in
theorem am_ck94 : am_m94.2.2.2.all (am_chkI am_m94) = true := by decide +kernel
set_option maxRecDepth 1000000 in
theorem am_ck95 : am_m95.2.2.2.all (am_chkI am_m95) = true := by decide +kernel
set_option maxRecDepth 1000000 in
theorem am_ck96_0 : am_m96_c0.all (am_chkI am_m96) = true := by decide +kernel
set_option maxRecDepth 1000000 in
theorem am_ck96_1 : am_m96_c1.all (am_chkI am_m96) = true := by decide +kernel
theorem am_ck96 : am_m96.2.2.2.all (am_chkI am_m96) = true := (am_all_app am_ck96_0 am_ck96_1)
set_option maxRecDepth 1000000 in
theorem am_ck97_0 : am_m97_c0.all (am_chkI am_m97) = true := by decide +kernel
set_option maxRecDepth 1000000 in
theorem am_ck97_1 : am_m97_c1.all (am_chkI am_m97) = true := by decide +kernel
theorem am_ck97 : am_m97.2.2.2.all (am_chkI am_m97) = true := (am_all_app am_ck97_0 am_ck97_1)
set_option maxRecDepth 1000000 in
theorem am_ck98 : am_m98.2.2.2.all (am_chkI am_m98) = true := by decide +kernel
set_option maxRecDepth 1000000 in
theorem am_ck99_0 : am_m99_c0.all (am_chkI am_m99) = true := by decide +kernel
set_option maxRecDepth 1000000 in
theorem am_ck99_1 : am_m99_c1.all (am_chkI am_m99) = true := by decide +kernel
theorem am_ck99 : am_m99.2.2.2.all (am_chkI am_m99) = true := (am_all_app am_ck99_0 am_ck99_1)
set_option maxRecDepth 1000000 in
theorem am_ck100 : am_m100.2.2.2.all (am_chkI am_m100) = true := by decide +kernel
set_option maxRecDepth 1000000 in
theorem am_ck101 : am_m101.2.2.2.all (am_chkI am_m101) = true := by decide +kernel
set_option maxRecDepth 1000000 in
theorem am_ck102_0 : am_m102_c0.all (am_chkI am_m102) = true := by decide +kernel
set_option maxRecDepth 1000000 in
theorem am_ck102_1 : am_m102_c1.all (am_chkI am_m102) = true := by decide +kernel
theorem am_ck102 : am_m102.2.2.2.all (am_chkI am_m102) = true := (am_all_app am_ck102_0 am_ck102_1)
set_option maxRecDepth 1000000 in
theorem am_ck103 : am_m103.2.2.2.all (am_chkI am_m103) = true := by decide +kernel
set_option maxRecDepth 1000000 in
theorem am_ck104_0 : am_m104_c0.all (am_chkI am_m104) = true := by decide +kernel
set_option maxRecDepth 1000000 in
theorem am_ck104_1 : am_m104_c1.all (am_chkI am_m104) = true := by decide +kernel
theorem am_ck104 : am_m104.2.2.2.all (am_chkI am_m104) = true := (am_all_app am_ck104_0 am_ck104_1)
