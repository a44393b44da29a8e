set_option maxRecDepth 1000000 in
theorem am_ck34 : am_m34.2.2.2.all (am_chkI am_m34) = true := by decide +kernel
set_option maxRecDepth 1000000 in
theorem am_ck35 : am_m35.2.2.2.all (am_chkI am_m35) = true := by decide +kernel
set_option maxRecDepth 1000000 in
theorem am_ck36 : am_m36.2.2.2.all (am_chkI am_m36) = true := by decide +kernel
set_option maxRecDepth 1000000 in
theorem am_ck37 : am_m37.2.2.2.all (am_chkI am_m37) = true := by decide +kernel
set_option maxRecDepth 1000000 in
theorem am_ck38_0 : am_m38_c0.all (am_chkI am_m38) = true := by decide +kernel
set_option maxRecDepth 1000000 in
theorem am_ck38_1 : am_m38_c1.all (am_chkI am_m38) = true := by decide +kernel
theorem am_ck38 : am_m38.2.2.2.all (am_chkI am_m38) = true := (am_all_app am_ck38_0 am_ck38_1)
set_option maxRecDepth 1000000 in
theorem am_ck39 : am_m39.2.2.2.all (am_chkI am_m39) = true := by decide +kernel
set_option maxRecDepth 1000000 in
theorem am_ck40 : am_m40.2.2.2.all (am_chkI am_m40) = true := by decide +kernel
set_option maxRecDepth 1000000 in
theorem am_ck41 : am_m41.2.2.2.all (am_chkI am_m41) = true := by decide +kernel
set_option maxRecDepth 1000000 in
theorem am_ck42_0 : am_m42_c0.all (am_chkI am_m42) = true := by decide +kernel
set_option maxRecDepth 1000000 in
theorem am_ck42_1 : am_m42_c1.all (am_chkI am_m42) = true := by decide +kernel
theorem am_ck42 : am_m42.2.2.2.all (am_chkI am_m42) = true := (am_all_app am_ck42_0 am_ck42_1)
set_option maxRecDepth 1000000 in
theorem am_ck43 : am_m43.2.2.2.all (am_chkI am_m43) = true := by decide +kernel
set_option maxRecDepth 1000000 in
theorem am_ck44_0 : am_m44_c0.all (am_chkI am_m44) = true := by decide +kernel
set_option maxRecDepth 1000000 in
theorem am_ck44_1 : am_m44_c1.all (am_chkI am_m44) = true := by decide +kernel
theorem am_ck44 : am_m44.2.2.2.all (am_chkI am_m44) = true := (am_all_app am_ck44_0 am_ck44_1)
set_option maxRecDepth 1000000 in
theorem am_ck45 : am_m45.2.2.2.all (am_chkI am_m45) = true := by decide +kernel
set_option maxRecDepth 1000000 in
theorem am_ck46 : am_m46.2.2.2.all (am_chkI am_m46) = true := by decide +kernel
set_option maxRecDepth 1000000 in
theorem am_ck47 : am_m47.2.2.2.all (am_chkI am_m47) = true := by decide +kernel
set_option maxRecDepth 1000000 in
theorem am_ck48 : am_m48.2.2.2.all (am_chkI am_m48) = true := by decide +kernel
set_option maxRecDepth 1000000 in
theorem am_ck49 : am_m49.2.2.2.all (am_chkI am_m49) = true := by decide +kernel
set_option maxRecDepth 1000000 in
theorem am_ck50 : am_m50.2.2.2.all (am_chkI am_m50) = true := by decide +kernel
