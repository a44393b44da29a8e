set_option maxRecDepth 1000000 in
theorem am_ck167 : am_m167.2.2.2.all (am_chkI am_m167) = true := by decide +kernel
set_option maxRecDepth 1000000 in
theorem am_ck168 : am_m168.2.2.2.all (am_chkI am_m168) = true := by decide +kernel
set_option maxRecDepth 1000000 in
theorem am_ck169 : am_m169.2.2.2.all (am_chkI am_m169) = true := by decide +kernel
set_option maxRecDepth 1000000 in
theorem am_ck170 : am_m170.2.2.2.all (am_chkI am_m170) = true := by decide +kernel
set_option maxRecDepth 1000000 in
theorem am_ck171 : am_m171.2.2.2.all (am_chkI am_m171) = true := by decide +kernel
set_option maxRecDepth 1000000 in
theorem am_ck172_0 : am_m172_c0.all (am_chkI am_m172) = true := by decide +kernel
set_option maxRecDepth 1000000 in
theorem am_ck172_1 : am_m172_c1.all (am_chkI am_m172) = true := by decide +kernel
theorem am_ck172 : am_m172.2.2.2.all (am_chkI am_m172) = true := (am_all_app am_ck172_0 am_ck172_1)
set_option maxRecDepth 1000000 in
theorem am_ck173 : am_m173.2.2.2.all (am_chkI am_m173) = true := by decide +kernel
set_option maxRecDepth 1000000 in
theorem am_ck174 : am_m174.2.2.2.all (am_chkI am_m174) = true := by decide +kernel
set_option maxRecDepth 1000000 in
theorem am_ck175 : am_m175.2.2.2.all (am_chkI am_m175) = true := by decide +kernel
set_option maxRecDepth 1000000 in
theorem am_ck176 : am_m176.2.2.2.all (am_chkI am_m176) = true := by decide +kernel
set_option maxRecDepth 1000000 in
theorem am_ck177 : am_m177.2.2.2.all (am_chkI am_m177) = true := by decide +kernel
set_option maxRecDepth 1000000 in
theorem am_ck178_0 : am_m178_c0.all (am_chkI am_m178) = true := by decide +kernel
set_option maxRecDepth 1000000 in
theorem am_ck178_1 : am_m178_c1.all (am_chkI am_m178) = true := by decide +kernel
set_option maxRecDepth 1000000 in
theorem am_ck178_2 : am_m178_c2.all (am_chkI am_m178) = true := by decide +kernel
theorem am_ck178 : am_m178.2.2.2.all (am_chkI am_m178) = true := (am_all_app am_ck178_0 (am_all_app am_ck178_1 am_ck178_2))
set_option maxRecDepth 1000000 in
theorem am_ck179 : am_m179.2.2.2.all (am_chkI am_m179) = true := by decide +kernel
set_option maxRecDepth 1000000 in
theorem am_ck180 : am_m180.2.2.2.all (am_chkI am_m180) = true := by decide +kernel
set_option maxRecDepth 1000000 in
theorem am_ck181 : am_m181.2.2.2.all (am_chkI am_m181) = true := by decide +kernel
set_option maxRecDepth 1000000 in
theorem am_ck182 : am_m182.2.2.2.all (am_chkI am_m182) = true := by decide +kernel
set_option maxRecDepth 1000000 in
theorem am_ck183 : am_m183.2.2.2.all (am_chkI am_m183) = true := by decide +kernel
