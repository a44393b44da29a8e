set_option maxRecDepth 1000000 in
theorem am_ck142_9 : am_m142_c9.all (am_chkI am_m142) = true := by decide +kernel
theorem am_ck142 : am_m142.2.2.2.all (am_chkI am_m142) = true := (am_all_app am_ck142_0 (am_all_app am_ck142_1 (am_all_app am_ck142_2 (am_all_app am_ck142_3 (am_all_app am_ck142_4 (am_all_app am_ck142_5 (am_all_app am_ck142_6 (am_all_app am_ck142_7 (am_all_app am_ck142_8 am_ck142_9)))))))))
set_option maxRecDepth 1000000 in
theorem am_ck143 : am_m143.2.2.2.all (am_chkI am_m143) = true := by decide +kernel
set_option maxRecDepth 1000000 in
theorem am_ck144_0 : am_m144_c0.all (am_chkI am_m144) = true := by decide +kernel
set_option maxRecDepth 1000000 in
theorem am_ck144_1 : am_m144_c1.all (am_chkI am_m144) = true := by decide +kernel
theorem am_ck144 : am_m144.2.2.2.all (am_chkI am_m144) = true := (am_all_app am_ck144_0 am_ck144_1)
set_option maxRecDepth 1000000 in
theorem am_ck145 : am_m145.2.2.2.all (am_chkI am_m145) = true := by decide +kernel
set_option maxRecDepth 1000000 in
theorem am_ck146_0 : am_m146_c0.all (am_chkI am_m146) = true := by decide +kernel
set_option maxRecDepth 1000000 in
theorem am_ck146_1 : am_m146_c1.all (am_chkI am_m146) = true := by decide +kernel
theorem am_ck146 : am_m146.2.2.2.all (am_chkI am_m146) = true := (am_all_app am_ck146_0 am_ck146_1)
set_option maxRecDepth 1000000 in
theorem am_ck147_0 : am_m147_c0.all (am_chkI am_m147) = true := by decide +kernel
set_option maxRecDepth 1000000 in
theorem am_ck147_1 : am_m147_c1.all (am_chkI am_m147) = true := by decide +kernel
theorem am_ck147 : am_m147.2.2.2.all (am_chkI am_m147) = true := (am_all_app am_ck147_0 am_ck147_1)
set_option maxRecDepth 1000000 in
theorem am_ck148 : am_m148.2.2.2.all (am_chkI am_m148) = true := by decide +kernel
set_option maxRecDepth 1000000 in
theorem am_ck149_0 : am_m149_c0.all (am_chkI am_m149) = true := by decide +kernel
set_option maxRecDepth 1000000 in
theorem am_ck149_1 : am_m149_c1.all (am_chkI am_m149) = true := by decide +kernel
theorem am_ck149 : am_m149.2.2.2.all (am_chkI am_m149) = true := (am_all_app am_ck149_0 am_ck149_1)
set_option maxRecDepth 1000000 in
theorem am_ck150 : am_m150.2.2.2.all (am_chkI am_m150) = true := by decide +kernel
set_option maxRecDepth 1000000 in
theorem am_ck151_0 : am_m151_c0.all (am_chkI am_m151) = true := by decide +kernel
set_option maxRecDepth 1000000 in
theorem am_ck151_1 : am_m151_c1.all (am_chkI am_m151) = true := by decide +kernel
set_option maxRecDepth 1000000 in
theorem am_ck151_2 : am_m151_c2.all (am_chkI am_m151) = true := by decide +kernel
theorem am_ck151 : am_m151.2.2.2.all (am_chkI am_m151) = true := (am_all_app am_ck151_0 (am_all_app am_ck151_1 am_ck151_2))
set_option maxRecDepth 1000000 in
theorem am_ck152 : am_m152.2.2.2.all (am_chkI am_m152) = true := by decide +kernel
set_option maxRecDepth 1000000 in
theorem am_ck153_0 : am_m153_c0.all (am_chkI am_m153) = true := by decide +kernel
