set_option maxRecDepth 1000000 in
theorem am_ck153_1 : am_m153_c1.all (am_chkI am_m153) = true := by decide +kernel
theorem am_ck153 : am_m153.2.2.2.all (am_chkI am_m153) = true := (am_all_app am_ck153_0 am_ck153_1)
set_option maxRecDepth 1000000 in
theorem am_ck154 : am_m154.2.2.2.all (am_chkI am_m154) = true := by decide +kernel
set_option maxRecDepth 1000000 in
theorem am_ck155 : am_m155.2.2.2.all (am_chkI am_m155) = true := by decide +kernel
set_option maxRecDepth 1000000 in
theorem am_ck156_0 : am_m156_c0.all (am_chkI am_m156) = true := by decide +kernel
set_option maxRecDepth 1000000 in
theorem am_ck156_1 : am_m156_c1.all (am_chkI am_m156) = true := by decide +kernel
set_option maxRecDepth 1000000 in
theorem am_ck156_2 : am_m156_c2.all (am_chkI am_m156) = true := by decide +kernel
theorem am_ck156 : am_m156.2.2.2.all (am_chkI am_m156) = true := (am_all_app am_ck156_0 (am_all_app am_ck156_1 am_ck156_2))
set_option maxRecDepth 1000000 in
theorem am_ck157_0 : am_m157_c0.all (am_chkI am_m157) = true := by decide +kernel
set_option maxRecDepth 1000000 in
theorem am_ck157_1 : am_m157_c1.all (am_chkI am_m157) = true := by decide +kernel
set_option maxRecDepth 1000000 in
theorem am_ck157_2 : am_m157_c2.all (am_chkI am_m157) = true := by decide +kernel
theorem am_ck157 : am_m157.2.2.2.all (am_chkI am_m157) = true := (am_all_app am_ck157_0 (am_all_app am_ck157_1 am_ck157_2))
set_option maxRecDepth 1000000 in
theorem am_ck158 : am_m158.2.2.2.all (am_chkI am_m158) = true := by decide +kernel
set_option maxRecDepth 1000000 in
theorem am_ck159 : am_m159.2.2.2.all (am_chkI am_m159) = true := by decide +kernel
set_option maxRecDepth 1000000 in
theorem am_ck160 : am_m160.2.2.2.all (am_chkI am_m160) = true := by decide +kernel
set_option maxRecDepth 1000000 in
theorem am_ck161 : am_m161.2.2.2.all (am_chkI am_m161) = true := by decide +kernel
set_option maxRecDepth 1000000 in
theorem am_ck162 : am_m162.2.2.2.all (am_chkI am_m162) = true := by decide +kernel
set_option maxRecDepth 1000000 in
theorem am_ck163_0 : am_m163_c0.all (am_chkI am_m163) = true := by decide +kernel
set_option maxRecDepth 1000000 in
theorem am_ck163_1 : am_m163_c1.all (am_chkI am_m163) = true := by decide +kernel
theorem am_ck163 : am_m163.2.2.2.all (am_chkI am_m163) = true := (am_all_app am_ck163_0 am_ck163_1)
set_option maxRecDepth 1000000 in
theorem am_ck164 : am_m164.2.2.2.all (am_chkI am_m164) = true := by decide +kernel
set_option maxRecDepth 1000000 in
theorem am_ck165 : am_m165.2.2.2.all (am_chkI am_m165) = true := by decide +kernel
set_option maxRecDepth 1000000 in
theorem am_ck166_0 : am_m166_c0.all (am_chkI am_m166) = true := by decide +kernel
set_option maxRecDepth 1000000 in
theorem am_ck166_1 : am_m166_c1.all (am_chkI am_m166) = true := by decide +kernel
theorem am_ck166 : am_m166.2.2.2.all (am_chkI am_m166) = true := (am_all_app am_ck166_0 am_ck166_1)
