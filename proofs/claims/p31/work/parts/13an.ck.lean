set_option maxRecDepth 1000000 in
theorem am_ck184_0 : am_m184_c0.all (am_chkI am_m184) = true := by decide +kernel
set_option maxRecDepth 1000000 in
theorem am_ck184_1 : am_m184_c1.all (am_chkI am_m184) = true := by decide +kernel
set_option maxRecDepth 1000000 in
theorem am_ck184_2 : am_m184_c2.all (am_chkI am_m184) = true := by decide +kernel
theorem am_ck184 : am_m184.2.2.2.all (am_chkI am_m184) = true := (am_all_app am_ck184_0 (am_all_app am_ck184_1 am_ck184_2))
set_option maxRecDepth 1000000 in
theorem am_ck185 : am_m185.2.2.2.all (am_chkI am_m185) = true := by decide +kernel
set_option maxRecDepth 1000000 in
theorem am_ck186 : am_m186.2.2.2.all (am_chkI am_m186) = true := by decide +kernel
set_option maxRecDepth 1000000 in
theorem am_ck187_0 : am_m187_c0.all (am_chkI am_m187) = true := by decide +kernel
set_option maxRecDepth 1000000 in
theorem am_ck187_1 : am_m187_c1.all (am_chkI am_m187) = true := by decide +kernel
theorem am_ck187 : am_m187.2.2.2.all (am_chkI am_m187) = true := (am_all_app am_ck187_0 am_ck187_1)
set_option maxRecDepth 1000000 in
theorem am_ck188 : am_m188.2.2.2.all (am_chkI am_m188) = true := by decide +kernel
set_option maxRecDepth 1000000 in
theorem am_ck189 : am_m189.2.2.2.all (am_chkI am_m189) = true := by decide +kernel
set_option maxRecDepth 1000000 in
theorem am_ck190 : am_m190.2.2.2.all (am_chkI am_m190) = true := by decide +kernel
set_option maxRecDepth 1000000 in
theorem am_ck191 : am_m191.2.2.2.all (am_chkI am_m191) = true := by decide +kernel
set_option maxRecDepth 1000000 in
theorem am_ck192_0 : am_m192_c0.all (am_chkI am_m192) = true := by decide +kernel
set_option maxRecDepth 1000000 in
theorem am_ck192_1 : am_m192_c1.all (am_chkI am_m192) = true := by decide +kernel
set_option maxRecDepth 1000000 in
theorem am_ck192_2 : am_m192_c2.all (am_chkI am_m192) = true := by decide +kernel
theorem am_ck192 : am_m192.2.2.2.all (am_chkI am_m192) = true := (am_all_app am_ck192_0 (am_all_app am_ck192_1 am_ck192_2))
set_option maxRecDepth 1000000 in
theorem am_ck193 : am_m193.2.2.2.all (am_chkI am_m193) = true := by decide +kernel
set_option maxRecDepth 1000000 in
theorem am_ck194 : am_m194.2.2.2.all (am_chkI am_m194) = true := by decide +kernel
set_option maxRecDepth 1000000 in
theorem am_ck195 : am_m195.2.2.2.all (am_chkI am_m195) = true := by decide +kernel
set_option maxRecDepth 1000000 in
theorem am_ck196_0 : am_m196_c0.all (am_chkI am_m196) = true := by decide +kernel
set_option maxRecDepth 1000000 in
theorem am_ck196_1 : am_m196_c1.all (am_chkI am_m196) = true := by decide +kernel
theorem am_ck196 : am_m196.2.2.2.all (am_chkI am_m196) = true := (am_all_app am_ck196_0 am_ck196_1)
set_option maxRecDepth 1000000 in
theorem am_ck197_0 : am_m197_c0.all (am_chkI am_m197) = true := by decide +kernel
