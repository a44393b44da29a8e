theorem am_all_app {f : am_I → Bool} {a b : List am_I} (ha : a.all f = true) (hb : b.all f = true) : (a ++ b).all f = true := by rw [List.all_append, ha, hb]; rfl
set_option maxRecDepth 1000000 in
theorem am_ck0_0 : am_m0_c0.all (am_chkI am_m0) = true := by decide +kernel
set_option maxRecDepth 1000000 in
theorem am_ck0_1 : am_m0_c1.all (am_chkI am_m0) = true := by decide +kernel
theorem am_ck0 : am_m0.2.2.2.all (am_chkI am_m0) = true := (am_all_app am_ck0_0 am_ck0_1)
set_option maxRecDepth 1000000 in
theorem am_ck1 : am_m1.2.2.2.all (am_chkI am_m1) = true := by decide +kernel
set_option maxRecDepth 1000000 in
theorem am_ck2 : am_m2.2.2.2.all (am_chkI am_m2) = true := by decide +kernel
set_option maxRecDepth 1000000 in
theorem am_ck3 : am_m3.2.2.2.all (am_chkI am_m3) = true := by decide +kernel
set_option maxRecDepth 1000000 in
theorem am_ck4 : am_m4.2.2.2.all (am_chkI am_m4) = true := by decide +kernel
set_option maxRecDepth 1000000 in
theorem am_ck5 : am_m5.2.2.2.all (am_chkI am_m5) = true := by decide +kernel
set_option maxRecDepth 1000000 in
theorem am_ck6_0 : am_m6_c0.all (am_chkI am_m6) = true := by decide +kernel
set_option maxRecDepth 1000000 in
theorem am_ck6_1 : am_m6_c1.all (am_chkI am_m6) = true := by decide +kernel
theorem am_ck6 : am_m6.2.2.2.all (am_chkI am_m6) = true := (am_all_app am_ck6_0 am_ck6_1)
set_option maxRecDepth 1000000 in
theorem am_ck7 : am_m7.2.2.2.all (am_chkI am_m7) = true := by decide +kernel
set_option maxRecDepth 1000000 in
theorem am_ck8 : am_m8.2.2.2.all (am_chkI am_m8) = true := by decide +kernel
set_option maxRecDepth 1000000 in
theorem am_ck9 : am_m9.2.2.2.all (am_chkI am_m9) = true := by decide +kernel
set_option maxRecDepth 1000000 in
theorem am_ck10 : am_m10.2.2.2.all (am_chkI am_m10) = true := by decide +kernel
set_option maxRecDepth 1000000 in
theorem am_ck11 : am_m11.2.2.2.all (am_chkI am_m11) = true := by decide +kernel
set_option maxRecDepth 1000000 in
theorem am_ck12 : am_m12.2.2.2.all (am_chkI am_m12) = true := by decide +kernel
set_option maxRecDepth 1000000 in
theorem am_ck13 : am_m13.2.2.2.all (am_chkI am_m13) = true := by decide +kernel
set_option maxRecDepth 1000000 in
theorem am_ck14 : am_m14.2.2.2.all (am_chkI am_m14) = true := by decide +kernel
set_option maxRecDepth 1000000 in
theorem am_ck15 : am_m15.2.2.2.all (am_chkI am_m15) = true := by decide +kernel
set_option maxRecDepth 1000000 in
theorem am_ck16 : am_m16.2.2.2.all (am_chkI am_m16) = true := by decide +kernel
set_option maxRecDepth 1000000 in
theorem am_ck17 : am_m17.2.2.2.all (am_chkI am_m17) = true := by decide +kernel
