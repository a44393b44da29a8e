set_option maxRecDepth 1000000 in
theorem am_ck80 : am_m80.2.2.2.all (am_chkI am_m80) = true := by decide +kernel
set_option maxRecDepth 1000000 in
theorem am_ck81_0 : am_m81_c0.all (am_chkI am_m81) = true := by decide +kernel
set_option maxRecDepth 1000000 in
theorem am_ck81_1 : am_m81_c1.all (am_chkI am_m81) = true := by decide +kernel
theorem am_ck81 : am_m81.2.2.2.all (am_chkI am_m81) = true := (am_all_app am_ck81_0 am_ck81_1)
set_option maxRecDepth 1000000 in
theorem am_ck82_0 : am_m82_c0.all (am_chkI am_m82) = true := by decide +kernel
set_option maxRecDepth 1000000 in
theorem am_ck82_1 : am_m82_c1.all (am_chkI am_m82) = true := by decide +kernel
theorem am_ck82 : am_m82.2.2.2.all (am_chkI am_m82) = true := (am_all_app am_ck82_0 am_ck82_1)
set_option maxRecDepth 1000000 in
theorem am_ck83 : am_m83.2.2.2.all (am_chkI am_m83) = true := by decide +kernel
set_option maxRecDepth 1000000 in
theorem am_ck84_0 : am_m84_c0.all (am_chkI am_m84) = true := by decide +kernel
set_option maxRecDepth 1000000 in
theorem am_ck84_1 : am_m84_c1.all (am_chkI am_m84) = true := by decide +kernel
theorem am_ck84 : am_m84.2.2.2.all (am_chkI am_m84) = true := (am_all_app am_ck84_0 am_ck84_1)
set_option maxRecDepth 1000000 in
theorem am_ck85 : am_m85.2.2.2.all (am_chkI am_m85) = true := by decide +kernel
set_option maxRecDepth 1000000 in
theorem am_ck86_0 : am_m86_c0.all (am_chkI am_m86) = true := by decide +kernel
set_option maxRecDepth 1000000 in
theorem am_ck86_1 : am_m86_c1.all (am_chkI am_m86) = true := by decide +kernel
set_option maxRecDepth 1000000 in
theorem am_ck86_2 : am_m86_c2.all (am_chkI am_m86) = true := by decide +kernel
theorem am_ck86 : am_m86.2.2.2.all (am_chkI am_m86) = true := (am_all_app am_ck86_0 (am_all_app am_ck86_1 am_ck86_2))
set_option maxRecDepth 1000000 in
theorem am_ck87 : am_m87.2.2.2.all (am_chkI am_m87) = true := by decide +kernel
set_option maxRecDepth 1000000 in
theorem am_ck88 : am_m88.2.2.2.all (am_chkI am_m88) = true := by decide +kernel
set_option maxRecDepth 1000000 in
theorem am_ck89 : am_m89.2.2.2.all (am_chkI am_m89) = true := by decide +kernel
set_option maxRecDepth 1000000 in
theorem am_ck90 : am_m90.2.2.2.all (am_chkI am_m90) = true := by decide +kernel
set_option maxRecDepth 1000000 in
theorem am_ck91 : am_m91.2.2.2.all (am_chkI am_m91) = true := by decide +kernel
set_option maxRecDepth 1000000 in
theorem am_ck92_0 : am_m92_c0.all (am_chkI am_m92) = true := by decide +kernel
