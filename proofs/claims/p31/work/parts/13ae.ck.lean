set_option maxRecDepth 1000000 in
theorem am_ck67_0 : am_m67_c0.all (am_chkI am_m67) = true := by decide +kernel
set_option maxRecDepth 1000000 in
theorem am_ck67_1 : am_m67_c1.all (am_chkI am_m67) = true := by decide +kernel
set_option maxRecDepth 1000000 in
theorem am_ck67_2 : am_m67_c2.all (am_chkI am_m67) = true := by decide +kernel
theorem am_ck67 : am_m67.2.2.2.all (am_chkI am_m67) = true := (am_all_app am_ck67_0 (am_all_app am_ck67_1 am_ck67_2))
set_option maxRecDepth 1000000 in
theorem am_ck68 : am_m68.2.2.2.all (am_chkI am_m68) = true := by decide +kernel
set_option maxRecDepth 1000000 in
theorem am_ck69_0 : am_m69_c0.all (am_chkI am_m69) = true := by decide +kernel
set_option maxRecDepth 1000000 in
theorem am_ck69_1 : am_m69_c1.all (am_chkI am_m69) = true := by decide +kernel
theorem am_ck69 : am_m69.2.2.2.all (am_chkI am_m69) = true := (am_all_app am_ck69_0 am_ck69_1)
set_option maxRecDepth 1000000 in
theorem am_ck70 : am_m70.2.2.2.all (am_chkI am_m70) = true := by decide +kernel
set_option maxRecDepth 1000000 in
theorem am_ck71 : am_m71.2.2.2.all (am_chkI am_m71) = true := by decide +kernel
set_option maxRecDepth 1000000 in
theorem am_ck72 : am_m72.2.2.2.all (am_chkI am_m72) = true := by decide +kernel
set_option maxRecDepth 1000000 in
theorem am_ck73 : am_m73.2.2.2.all (am_chkI am_m73) = true := by decide +kernel
set_option maxRecDepth 1000000 in
theorem am_ck74 : am_m74.2.2.2.all (am_chkI am_m74) = true := by decide +kernel
set_option maxRecDepth 1000000 in
theorem am_ck75_0 : am_m75_c0.all (am_chkI am_m75) = true := by decide +kernel
set_option maxRecDepth 1000000 in
theorem am_ck75_1 : am_m75_c1.all (am_chkI am_m75) = true := by decide +kernel
theorem am_ck75 : am_m75.2.2.2.all (am_chkI am_m75) = true := (am_all_app am_ck75_0 am_ck75_1)
set_option maxRecDepth 1000000 in
theorem am_ck76 : am_m76.2.2.2.all (am_chkI am_m76) = true := by decide +kernel
set_option maxRecDepth 1000000 in
theorem am_ck77 : am_m77.2.2.2.all (am_chkI am_m77) = true := by decide +kernel
set_option maxRecDepth 1000000 in
theorem am_ck78 : am_m78.2.2.2.all (am_chkI am_m78) = true := by decide +kernel
set_option maxRecDepth 1000000 in
theorem am_ck79 : am_m79.2.2.2.all (am_chkI am_m79) = true := by decide +kernel
set_option maxRecDepth 1000000 in
theorem am_ck80 : am_m80.2.2.2.all (am_chkI am_m80) = true := by decide +kernel
set_option maxRecDepth 1000000 in
theorem am_ck81 : am_m81.2.2.2.all (am_chkI am_m81) = true := by decide +kernel
set_option maxRecDepth 1000000 in
theorem am_ck82 : am_m82.2.2.2.all (am_chkI am_m82) = true := by decide +kernel
