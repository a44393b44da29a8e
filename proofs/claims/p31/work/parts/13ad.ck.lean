set_option maxRecDepth 1000000 in
theorem am_ck51_0 : am_m51_c0.all (am_chkI am_m51) = true := by decide +kernel
set_option maxRecDepth 1000000 in
theorem am_ck51_1 : am_m51_c1.all (am_chkI am_m51) = true := by decide +kernel
theorem am_ck51 : am_m51.2.2.2.all (am_chkI am_m51) = true := (am_all_app am_ck51_0 am_ck51_1)
set_option maxRecDepth 1000000 in
theorem am_ck52 : am_m52.2.2.2.all (am_chkI am_m52) = true := by decide +kernel
set_option maxRecDepth 1000000 in
theorem am_ck53 : am_m53.2.2.2.all (am_chkI am_m53) = true := by decide +kernel
set_option maxRecDepth 1000000 in
theorem am_ck54 : am_m54.2.2.2.all (am_chkI am_m54) = true := by decide +kernel
set_option maxRecDepth 1000000 in
theorem am_ck55 : am_m55.2.2.2.all (am_chkI am_m55) = true := by decide +kernel
set_option maxRecDepth 1000000 in
theorem am_ck56 : am_m56.2.2.2.all (am_chkI am_m56) = true := by decide +kernel
set_option maxRecDepth 1000000 in
theorem am_ck57 : am_m57.2.2.2.all (am_chkI am_m57) = true := by decide +kernel
set_option maxRecDepth 1000000 in
theorem am_ck58 : am_m58.2.2.2.all (am_chkI am_m58) = true := by decide +kernel
set_option maxRecDepth 1000000 in
theorem am_ck59 : am_m59.2.2.2.all (am_chkI am_m59) = true := by decide +kernel
set_option maxRecDepth 1000000 in
theorem am_ck60 : am_m60.2.2.2.all (am_chkI am_m60) = true := by decide +kernel
set_option maxRecDepth 1000000 in
theorem am_ck61 : am_m61.2.2.2.all (am_chkI am_m61) = true := by decide +kernel
set_option maxRecDepth 1000000 in
theorem am_ck62 : am_m62.2.2.2.all (am_chkI am_m62) = true := by decide +kernel
set_option maxRecDepth 1000000 in
theorem am_ck63 : am_m63.2.2.2.all (am_chkI am_m63) = true := by decide +kernel
set_option maxRecDepth 1000000 in
theorem am_ck64 : am_m64.2.2.2.all (am_chkI am_m64) = true := by decide +kernel
set_option maxRecDepth 1000000 in
theorem am_ck65_0 : am_m65_c0.all (am_chkI am_m65) = true := by decide +kernel
set_option maxRecDepth 1000000 in
theorem am_ck65_1 : am_m65_c1.all (am_chkI am_m65) = true := by decide +kernel
theorem am_ck65 : am_m65.2.2.2.all (am_chkI am_m65) = true := (am_all_app am_ck65_0 am_ck65_1)
set_option maxRecDepth 1000000 in
theorem am_ck66_0 : am_m66_c0.all (am_chkI am_m66) = true := by decide +kernel
set_option maxRecDepth 1000000 in
theorem am_ck66_1 : am_m66_c1.all (am_chkI am_m66) = true := by decide +kernel
set_option maxRecDepth 1000000 in
theorem am_ck66_2 : am_m66_c2.all (am_chkI am_m66) = true := by decide +kernel
theorem am_ck66 : am_m66.2.2.2.all (am_chkI am_m66) = true := (am_all_app am_ck66_0 (am_all_app am_ck66_1 am_ck66_2))
