set_option maxRecDepth 1000000 in
theorem am_ck0 : am_m0.2.2.2.all (am_chkI am_m0) = true := by decide +kernel
set_option maxRecDepth 1000000 in
theorem am_ck1 : am_m1.2.2.2.all (am_chkI am_m1) = true := by decide +kernel
set_option maxRecDepth 1000000 in
theorem am_ck2 : am_m2.2.2.2.all (am_chkI am_m2) = true := by decide +kernel
set_option maxRecDepth 1000000 in
theorem am_ck3 : am_m3.2.2.2.all (am_chkI am_m3) = true := by decide +kernel
set_option maxRecDepth 1000000 in
theorem am_ck4 : am_m4.2.2.2.all (am_chkI am_m4) = true := by decide +kernel
set_option maxRecDepth 1000000 in
theorem am_ck5 : am_m5.2.2.2.all (am_chkI am_m5) = true := by decide +kernel
set_option maxRecDepth 1000000 in
theorem am_ck6 : am_m6.2.2.2.all (am_chkI am_m6) = true := by decide +kernel
set_option maxRecDepth 1000000 in
theorem am_ck7 : am_m7.2.2.2.all (am_chkI am_m7) = true := by decide +kernel
set_option maxRecDepth 1000000 in
theorem am_ck8 : am_m8.2.2.2.all (am_chkI am_m8) = true := by decide +kernel
set_option maxRecDepth 1000000 in
theorem am_ck9 : am_m9.2.2.2.all (am_chkI am_m9) = true := by decide +kernel
set_option maxRecDepth 1000000 in
theorem am_ck10 : am_m10.2.2.2.all (am_chkI am_m10) = true := by decide +kernel
set_option maxRecDepth 1000000 in
theorem am_ck11 : am_m11.2.2.2.all (am_chkI am_m11) = true := by decide +kernel
set_option maxRecDepth 1000000 in
theorem am_ck12 : am_m12.2.2.2.all (am_chkI am_m12) = true := by decide +kernel
set_option maxRecDepth 1000000 in
theorem am_ck13 : am_m13.2.2.2.all (am_chkI am_m13) = true := by decide +kernel
set_option maxRecDepth 1000000 in
theorem am_ck14 : am_m14.2.2.2.all (am_chkI am_m14) = true := by decide +kernel
set_option maxRecDepth 1000000 in
theorem am_ck15 : am_m15.2.2.2.all (am_chkI am_m15) = true := by decide +kernel
set_option maxRecDepth 1000000 in
theorem am_ck16 : am_m16.2.2.2.all (am_chkI am_m16) = true := by decide +kernel
set_option maxRecDepth 1000000 in
theorem am_ck17 : am_m17.2.2.2.all (am_chkI am_m17) = true := by decide +kernel
set_option maxRecDepth 1000000 in
theorem am_ck18 : am_m18.2.2.2.all (am_chkI am_m18) = true := by decide +kernel
set_option maxRecDepth 1000000 in
theorem am_ck19 : am_m19.2.2.2.all (am_chkI am_m19) = true := by decide +kernel
set_option maxRecDepth 1000000 in
theorem am_ck20 : am_m20.2.2.2.all (am_chkI am_m20) = true := by decide +kernel
set_option maxRecDepth 1000000 in
theorem am_ck21 : am_m21.2.2.2.all (am_chkI am_m21) = true := by decide +kernel
set_option maxRecDepth 1000000 in
theorem am_ck22 : am_m22.2.2.2.all (am_chkI am_m22) = true := by decide +kernel
set_option maxRecDepth 1000000 in
theorem am_ck23 : am_m23.2.2.2.all (am_chkI am_m23) = true := by decide +kernel
set_option maxRecDepth 1000000 in
theorem am_ck24 : am_m24.2.2.2.all (am_chkI am_m24) = true := by decide +kernel
