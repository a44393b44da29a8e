set_option maxRecDepth 1000000 in
theorem am_ck25 : am_m25.2.2.2.all (am_chkI am_m25) = true := by decide +kernel
set_option maxRecDepth 1000000 in
theorem am_ck26 : am_m26.2.2.2.all (am_chkI am_m26) = true := by decide +kernel
set_option maxRecDepth 1000000 in
theorem am_ck27 : am_m27.2.2.2.all (am_chkI am_m27) = true := by decide +kernel
set_option maxRecDepth 1000000 in
theorem am_ck28 : am_m28.2.2.2.all (am_chkI am_m28) = true := by decide +kernel
set_option maxRecDepth 1000000 in
theorem am_ck29 : am_m29.2.2.2.all (am_chkI am_m29) = true := by decide +kernel
set_option maxRecDepth 1000000 in
theorem am_ck30 : am_m30.2.2.2.all (am_chkI am_m30) = true := by decide +kernel
set_option maxRecDepth 1000000 in
theorem am_ck31 : am_m31.2.2.2.all (am_chkI am_m31) = true := by decide +kernel
set_option maxRecDepth 1000000 in
theorem am_ck32 : am_m32.2.2.2.all (am_chkI am_m32) = true := by decide +kernel
set_option maxRecDepth 1000000 in
theorem am_ck33 : am_m33.2.2.2.all (am_chkI am_m33) = true := by decide +kernel
set_option maxRecDepth 1000000 in
theorem am_ck34 : am_m34.2.2.2.all (am_chkI am_m34) = true := by decide +kernel
set_option maxRecDepth 1000000 in
theorem am_ck35 : am_m35.2.2.2.all (am_chkI am_m35) = true := by decide +kernel
set_option maxRecDepth 1000000 in
theorem am_ck36 : am_m36.2.2.2.all (am_chkI am_m36) = true := by decide +kernel
set_option maxRecDepth 1000000 in
theorem am_ck37 : am_m37.2.2.2.all (am_chkI am_m37) = true := by decide +kernel
set_option maxRecDepth 1000000 in
theorem am_ck38 : am_m38.2.2.2.all (am_chkI am_m38) = true := by decide +kernel
set_option maxRecDepth 1000000 in
theorem am_ck39 : am_m39.2.2.2.all (am_chkI am_m39) = true := by decide +kernel
set_option maxRecDepth 1000000 in
theorem am_ck40 : am_m40.2.2.2.all (am_chkI am_m40) = true := by decide +kernel
set_option maxRecDepth 1000000 in
theorem am_ck41 : am_m41.2.2.2.all (am_chkI am_m41) = true := by decide +kernel
set_option maxRecDepth 1000000 in
theorem am_ck42 : am_m42.2.2.2.all (am_chkI am_m42) = true := by decide +kernel
set_option maxRecDepth 1000000 in
theorem am_ck43 : am_m43.2.2.2.all (am_chkI am_m43) = true := by decide +kernel
set_option maxRecDepth 1000000 in
theorem am_ck44 : am_m44.2.2.2.all (am_chkI am_m44) = true := by decide +kernel
set_option maxRecDepth 1000000 in
theorem am_ck45 : am_m45.2.2.2.all (am_chkI am_m45) = true := by decide +kernel
set_option maxRecDepth 1000000 in
theorem am_ck46 : am_m46.2.2.2.all (am_chkI am_m46) = true := by decide +kernel
set_option maxRecDepth 1000000 in
theorem am_ck47 : am_m47.2.2.2.all (am_chkI am_m47) = true := by decide +kernel
set_option maxRecDepth 1000000 in
theorem am_ck48 : am_m48.2.2.2.all (am_chkI am_m48) = true := by decide +kernel
set_option maxRecDepth 1000000 in
theorem am_ck49 : am_m49.2.2.2.all (am_chkI am_m49) = true := by decide +kernel
