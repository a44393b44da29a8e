set_option maxRecDepth 1000000 in
theorem am_ck197_1 : am_m197_c1.all (am_chkI am_m197) = true := by decide +kernel
theorem am_ck197 : am_m197.2.2.2.all (am_chkI am_m197) = true := (am_all_app am_ck197_0 am_ck197_1)
set_option maxRecDepth 1000000 in
theorem am_ck198 : am_m198.2.2.2.all (am_chkI am_m198) = true := by decide +kernel
set_option maxRecDepth 1000000 in
theorem am_ck199 : am_m199.2.2.2.all (am_chkI am_m199) = true := by decide +kernel
set_option maxRecDepth 1000000 in
theorem am_ck200_0 : am_m200_c0.all (am_chkI am_m200) = true := by decide +kernel
set_option maxRecDepth 1000000 in
theorem am_ck200_1 : am_m200_c1.all (am_chkI am_m200) = true := by decide +kernel
theorem am_ck200 : am_m200.2.2.2.all (am_chkI am_m200) = true := (am_all_app am_ck200_0 am_ck200_1)
set_option maxRecDepth 1000000 in
theorem am_ck201 : am_m201.2.2.2.all (am_chkI am_m201) = true := by decide +kernel
set_option maxRecDepth 1000000 in
theorem am_ck202 : am_m202.2.2.2.all (am_chkI am_m202) = true := by decide +kernel
set_option maxRecDepth 1000000 in
theorem am_ck203 : am_m203.2.2.2.all (am_chkI am_m203) = true := by decide +kernel
set_option maxRecDepth 1000000 in
theorem am_ck204 : am_m204.2.2.2.all (am_chkI am_m204) = true := by decide +kernel
set_option maxRecDepth 1000000 in
theorem am_ck205_0 : am_m205_c0.all (am_chkI am_m205) = true := by decide +kernel
set_option maxRecDepth 1000000 in
theorem am_ck205_1 : am_m205_c1.all (am_chkI am_m205) = true := by decide +kernel
theorem am_ck205 : am_m205.2.2.2.all (am_chkI am_m205) = true := (am_all_app am_ck205_0 am_ck205_1)
set_option maxRecDepth 1000000 in
theorem am_ck206 : am_m206.2.2.2.all (am_chkI am_m206) = true := by decide +kernel
set_option maxRecDepth 1000000 in
theorem am_ck207 : am_m207.2.2.2.all (am_chkI am_m207) = true := by decide +kernel
set_option maxRecDepth 1000000 in
theorem am_ck208_0 : am_m208_c0.all (am_chkI am_m208) = true := by decide +kernel
set_option maxRecDepth 1000000 in
theorem am_ck208_1 : am_m208_c1.all (am_chkI am_m208) = true := by decide +kernel
theorem am_ck208 : am_m208.2.2.2.all (am_chkI am_m208) = true := (am_all_app am_ck208_0 am_ck208_1)
set_option maxRecDepth 1000000 in
theorem am_ck209 : am_m209.2.2.2.all (am_chkI am_m209) = true := by decide +kernel
set_option maxRecDepth 1000000 in
theorem am_ck210_0 : am_m210_c0.all (am_chkI am_m210) = true := by decide +kernel
set_option maxRecDepth 1000000 in
theorem am_ck210_1 : am_m210_c1.all (am_chkI am_m210) = true := by decide +kernel
theorem am_ck210 : am_m210.2.2.2.all (am_chkI am_m210) = true := (am_all_app am_ck210_0 am_ck210_1)
set_option maxRecDepth 1000000 in
theorem am_ck211 : am_m211.2.2.2.all (am_chkI am_m211) = true := by decide +kernel
set_option maxRecDepth 1000000 in
theorem am_ck212 : am_m212.2.2.2.all (am_chkI am_m212) = true := by decide +kernel
