set_option maxRecDepth 1000000 in
theorem am_ck50 : am_m50.2.2.2.all (am_chkI am_m50) = true := by decide +kernel
set_option maxRecDepth 1000000 in
theorem am_ck51 : am_m51.2.2.2.all (am_chkI am_m51) = true := by decide +kernel
set_option maxRecDepth 1000000 in
theorem am_ck52 : am_m52.2.2.2.all (am_chkI am_m52) = true := by decide +kernel
set_option maxRecDepth 1000000 in
theorem am_ck53 : am_m53.2.2.2.all (am_chkI am_m53) = true := by decide +kernel
set_option maxRecDepth 1000000 in
theorem am_ck54 : am_m54.2.2.2.all (am_chkI am_m54) = true := by decide +kernel
set_option maxRecDepth 1000000 in
theorem am_ck55 : am_m55.2.2.2.all (am_chkI am_m55) = true := by decide +kernel
set_option maxRecDepth 1000000 in
theorem am_ck56 : am_m56.2.2.2.all (am_chkI am_m56) = true := by decide +kernel
set_option maxRecDepth 1000000 in
theorem am_ck57 : am_m57.2.2.2.all (am_chkI am_m57) = true := by decide +kernel
set_option maxRecDepth 1000000 in
theorem am_ck58 : am_m58.2.2.2.all (am_chkI am_m58) = true := by decide +kernel
set_option maxRecDepth 1000000 in
theorem am_ck59 : am_m59.2.2.2.all (am_chkI am_m59) = true := by decide +kernel
set_option maxRecDepth 1000000 in
theorem am_ck60 : am_m60.2.2.2.all (am_chkI am_m60) = true := by decide +kernel
set_option maxRecDepth 1000000 in
theorem am_ck61 : am_m61.2.2.2.all (am_chkI am_m61) = true := by decide +kernel
set_option maxRecDepth 1000000 in
theorem am_ck62 : am_m62.2.2.2.all (am_chkI am_m62) = true := by decide +kernel
set_option maxRecDepth 1000000 in
theorem am_ck63 : am_m63.2.2.2.all (am_chkI am_m63) = true := by decide +kernel
set_option maxRecDepth 1000000 in
theorem am_ck64 : am_m64.2.2.2.all (am_chkI am_m64) = true := by decide +kernel
set_option maxRecDepth 1000000 in
theorem am_ck65 : am_m65.2.2.2.all (am_chkI am_m65) = true := by decide +kernel
set_option maxRecDepth 1000000 in
theorem am_ck66 : am_m66.2.2.2.all (am_chkI am_m66) = true := by decide +kernel
set_option maxRecDepth 1000000 in
theorem am_ck67 : am_m67.2.2.2.all (am_chkI am_m67) = true := by decide +kernel
set_option maxRecDepth 1000000 in
theorem am_ck68 : am_m68.2.2.2.all (am_chkI am_m68) = true := by decide +kernel
set_option maxRecDepth 1000000 in
theorem am_ck69 : am_m69.2.2.2.all (am_chkI am_m69) = true := by decide +kernel
set_option maxRecDepth 1000000 in
theorem am_ck70 : am_m70.2.2.2.all (am_chkI am_m70) = true := by decide +kernel
set_option maxRecDepth 1000000 in
theorem am_ck71 : am_m71.2.2.2.all (am_chkI am_m71) = true := by decide +kernel
set_option maxRecDepth 1000000 in
theorem am_ck72 : am_m72.2.2.2.all (am_chkI am_m72) = true := by decide +kernel
set_option maxRecDepth 1000000 in
theorem am_ck73 : am_m73.2.2.2.all (am_chkI am_m73) = true := by decide +kernel
set_option maxRecDepth 1000000 in
theorem am_ck74 : am_m74.2.2.2.all (am_chkI am_m74) = true := by decide +kernel
