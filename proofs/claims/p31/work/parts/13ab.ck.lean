set_option maxRecDepth 1000000 in
theorem am_ck18 : am_m18.2.2.2.all (am_chkI am_m18) = true := by decide +kernel
set_option maxRecDepth 1000000 in
theorem am_ck19_0 : am_m19_c0.all (am_chkI am_m19) = true := by decide +kernel
set_option maxRecDepth 1000000 in
theorem am_ck19_1 : am_m19_c1.all (am_chkI am_m19) = true := by decide +kernel
theorem am_ck19 : am_m19.2.2.2.all (am_chkI am_m19) = true := (am_all_app am_ck19_0 am_ck19_1)
set_option maxRecDepth 1000000 in
theorem am_ck20 : am_m20.2.2.2.all (am_chkI am_m20) = true := by decide +kernel
set_option maxRecDepth 1000000 in
theorem am_ck21_0 : am_m21_c0.all (am_chkI am_m21) = true := by decide +kernel
set_option maxRecDepth 1000000 in
theorem am_ck21_1 : am_m21_c1.all (am_chkI am_m21) = true := by decide +kernel
theorem am_ck21 : am_m21.2.2.2.all (am_chkI am_m21) = true := (am_all_app am_ck21_0 am_ck21_1)
set_option maxRecDepth 1000000 in
theorem am_ck22 : am_m22.2.2.2.all (am_chkI am_m22) = true := by decide +kernel
set_option maxRecDepth 1000000 in
theorem am_ck23 : am_m23.2.2.2.all (am_chkI am_m23) = true := by decide +kernel
set_option maxRecDepth 1000000 in
theorem am_ck24_0 : am_m24_c0.all (am_chkI am_m24) = true := by decide +kernel
set_option maxRecDepth 1000000 in
theorem am_ck24_1 : am_m24_c1.all (am_chkI am_m24) = true := by decide +kernel
theorem am_ck24 : am_m24.2.2.2.all (am_chkI am_m24) = true := (am_all_app am_ck24_0 am_ck24_1)
set_option maxRecDepth 1000000 in
theorem am_ck25 : am_m25.2.2.2.all (am_chkI am_m25) = true := by decide +kernel
set_option maxRecDepth 1000000 in
theorem am_ck26 : am_m26.2.2.2.all (am_chkI am_m26) = true := by decide +kernel
set_option maxRecDepth 1000000 in
theorem am_ck27 : am_m27.2.2.2.all (am_chkI am_m27) = true := by decide +kernel
set_option maxRecDepth 1000000 in
theorem am_ck28 : am_m28.2.2.2.all (am_chkI am_m28) = true := by decide +kernel
set_option maxRecDepth 1000000 in
theorem am_ck29 : am_m29.2.2.2.all (am_chkI am_m29) = true := by decide +kernel
set_option maxRecDepth 1000000 in
theorem am_ck30 : am_m30.2.2.2.all (am_chkI am_m30) = true := by decide +kernel
set_option maxRecDepth 1000000 in
theorem am_ck31_0 : am_m31_c0.all (am_chkI am_m31) = true := by decide +kernel
set_option maxRecDepth 1000000 in
theorem am_ck31_1 : am_m31_c1.all (am_chkI am_m31) = true := by decide +kernel
theorem am_ck31 : am_m31.2.2.2.all (am_chkI am_m31) = true := (am_all_app am_ck31_0 am_ck31_1)
set_option maxRecDepth 1000000 in
theorem am_ck32 : am_m32.2.2.2.all (am_chkI am_m32) = true := by decide +kernel
set_option maxRecDepth 1000000 in
theorem am_ck33 : am_m33.2.2.2.all (am_chkI am_m33) = true := by decide +kernel
