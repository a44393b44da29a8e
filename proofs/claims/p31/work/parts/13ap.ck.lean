set_option maxRecDepth 1000000 in
theorem am_ck213 : am_m213.2.2.2.all (am_chkI am_m213) = true := by decide +kernel
set_option maxRecDepth 1000000 in
theorem am_ck214_0 : am_m214_c0.all (am_chkI am_m214) = true := by decide +kernel
set_option maxRecDepth 1000000 in
theorem am_ck214_1 : am_m214_c1.all (am_chkI am_m214) = true := by decide +kernel
theorem am_ck214 : am_m214.2.2.2.all (am_chkI am_m214) = true := (am_all_app am_ck214_0 am_ck214_1)
set_option maxRecDepth 1000000 in
theorem am_ck215_0 : am_m215_c0.all (am_chkI am_m215) = true := by decide +kernel
set_option maxRecDepth 1000000 in
theorem am_ck215_1 : am_m215_c1.all (am_chkI am_m215) = true := by decide +kernel
theorem am_ck215 : am_m215.2.2.2.all (am_chkI am_m215) = true := (am_all_app am_ck215_0 am_ck215_1)
set_option maxRecDepth 1000000 in
theorem am_ck216 : am_m216.2.2.2.all (am_chkI am_m216) = true := by decide +kernel
set_option maxRecDepth 1000000 in
theorem am_ck217 : am_m217.2.2.2.all (am_chkI am_m217) = true := by decide +kernel
set_option maxRecDepth 1000000 in
theorem am_ck218_0 : am_m218_c0.all (am_chkI am_m218) = true := by decide +kernel
set_option maxRecDepth 1000000 in
theorem am_ck218_1 : am_m218_c1.all (am_chkI am_m218) = true := by decide +kernel
theorem am_ck218 : am_m218.2.2.2.all (am_chkI am_m218) = true := (am_all_app am_ck218_0 am_ck218_1)
set_option maxRecDepth 1000000 in
theorem am_ck219 : am_m219.2.2.2.all (am_chkI am_m219) = true := by decide +kernel
set_option maxRecDepth 1000000 in
theorem am_ck220 : am_m220.2.2.2.all (am_chkI am_m220) = true := by decide +kernel
set_option maxRecDepth 1000000 in
theorem am_ck221_0 : am_m221_c0.all (am_chkI am_m221) = true := by decide +kernel
set_option maxRecDepth 1000000 in
theorem am_ck221_1 : am_m221_c1.all (am_chkI am_m221) = true := by decide +kernel
theorem am_ck221 : am_m221.2.2.2.all (am_chkI am_m221) = true := (am_all_app am_ck221_0 am_ck221_1)
set_option maxRecDepth 1000000 in
theorem am_ck222 : am_m222.2.2.2.all (am_chkI am_m222) = true := by decide +kernel
set_option maxRecDepth 1000000 in
theorem am_ck223 : am_m223.2.2.2.all (am_chkI am_m223) = true := by decide +kernel
set_option maxRecDepth 1000000 in
theorem am_ck224 : am_m224.2.2.2.all (am_chkI am_m224) = true := by decide +kernel
set_option maxRecDepth 1000000 in
theorem am_ck225 : am_m225.2.2.2.all (am_chkI am_m225) = true := by decide +kernel
set_option maxRecDepth 1000000 in
theorem am_ck226 : am_m226.2.2.2.all (am_chkI am_m226) = true := by decide +kernel
set_option maxRecDepth 1000000 in
theorem am_ck227 : am_m227.2.2.2.all (am_chkI am_m227) = true := by decide +kernel
set_option maxRecDepth 1000000 in
theorem am_ck228_0 : am_m228_c0.all (am_chkI am_m228) = true := by decide +kernel
