set_option maxRecDepth 1000000 in
theorem am_ck228_1 : am_m228_c1.all (am_chkI am_m228) = true := by decide +kernel
theorem am_ck228 : am_m228.2.2.2.all (am_chkI am_m228) = true := (am_all_app am_ck228_0 am_ck228_1)
set_option maxRecDepth 1000000 in
theorem am_ck229_0 : am_m229_c0.all (am_chkI am_m229) = true := by decide +kernel
set_option maxRecDepth 1000000 in
theorem am_ck229_1 : am_m229_c1.all (am_chkI am_m229) = true := by decide +kernel
theorem am_ck229 : am_m229.2.2.2.all (am_chkI am_m229) = true := (am_all_app am_ck229_0 am_ck229_1)
set_option maxRecDepth 1000000 in
theorem am_ck230 : am_m230.2.2.2.all (am_chkI am_m230) = true := by decide +kernel
set_option maxRecDepth 1000000 in
theorem am_ck231_0 : am_m231_c0.all (am_chkI am_m231) = true := by decide +kernel
set_option maxRecDepth 1000000 in
theorem am_ck231_1 : am_m231_c1.all (am_chkI am_m231) = true := by decide +kernel
theorem am_ck231 : am_m231.2.2.2.all (am_chkI am_m231) = true := (am_all_app am_ck231_0 am_ck231_1)
set_option maxRecDepth 1000000 in
theorem am_ck232_0 : am_m232_c0.all (am_chkI am_m232) = true := by decide +kernel
set_option maxRecDepth 1000000 in
theorem am_ck232_1 : am_m232_c1.all (am_chkI am_m232) = true := by decide +kernel
theorem am_ck232 : am_m232.2.2.2.all (am_chkI am_m232) = true := (am_all_app am_ck232_0 am_ck232_1)
set_option maxRecDepth 1000000 in
theorem am_ck233_0 : am_m233_c0.all (am_chkI am_m233) = true := by decide +kernel
set_option maxRecDepth 1000000 in
theorem am_ck233_1 : am_m233_c1.all (am_chkI am_m233) = true := by decide +kernel
set_option maxRecDepth 1000000 in
theorem am_ck233_2 : am_m233_c2.all (am_chkI am_m233) = true := by decide +kernel
theorem am_ck233 : am_m233.2.2.2.all (am_chkI am_m233) = true := (am_all_app am_ck233_0 (am_all_app am_ck233_1 am_ck233_2))
set_option maxRecDepth 1000000 in
theorem am_ck234_0 : am_m234_c0.all (am_chkI am_m234) = true := by decide +kernel
set_option maxRecDepth 1000000 in
theorem am_ck234_1 : am_m234_c1.all (am_chkI am_m234) = true := by decide +kernel
set_option maxRecDepth 1000000 in
theorem am_ck234_2 : am_m234_c2.all (am_chkI am_m234) = true := by decide +kernel
theorem am_ck234 : am_m234.2.2.2.all (am_chkI am_m234) = true := (am_all_app am_ck234_0 (am_all_app am_ck234_1 am_ck234_2))
set_option maxRecDepth 1000000 in
theorem am_ck235 : am_m235.2.2.2.all (am_chkI am_m235) = true := by decide +kernel
set_option maxRecDepth 1000000 in
theorem am_ck236 : am_m236.2.2.2.all (am_chkI am_m236) = true := by decide +kernel
set_option maxRecDepth 1000000 in
theorem am_ck237_0 : am_m237_c0.all (am_chkI am_m237) = true := by decide +kernel
set_option maxRecDepth 1000000 in
theorem am_ck237_1 : am_m237_c1.all (am_chkI am_m237) = true := by decide +kernel
theorem am_ck237 : am_m237.2.2.2.all (am_chkI am_m237) = true := (am_all_app am_ck237_0 am_ck237_1)
set_option maxRecDepth 1000000 in
theorem am_ck238_0 : am_m238_c0.all (am_chkI am_m238) = true := by decide +kernel
set_option maxRecDepth 1000000 in
theorem am_ck238_1 : am_m238_c1.all (am_chkI am_m238) = true := by decide +kernel
theorem am_ck238 : am_m238.2.2.2.all (am_chkI am_m238) = true := (am_all_app am_ck238_0 am_ck238_1)
