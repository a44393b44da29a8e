set_option maxRecDepth 1000000 in
theorem am_cw90 : Cond.code am_m90.1.2.1 am_m90.1.2.2 am_m90.2.1.1 am_m90.2.1.2.1 ∈ am_ts := am_ts_in (i := 1037) rfl rfl
set_option maxRecDepth 1000000 in
theorem am_cw91 : Cond.code am_m91.1.2.1 am_m91.1.2.2 am_m91.2.1.1 am_m91.2.1.2.1 ∈ am_ts := am_ts_in (i := 1041) rfl rfl
set_option maxRecDepth 1000000 in
theorem am_cw92 : Cond.code am_m92.1.2.1 am_m92.1.2.2 am_m92.2.1.1 am_m92.2.1.2.1 ∈ am_ts := am_ts_in (i := 1046) rfl rfl
set_option maxRecDepth 1000000 in
theorem am_cw93 : Cond.code am_m93.1.2.1 am_m93.1.2.2 am_m93.2.1.1 am_m93.2.1.2.1 ∈ am_ts := am_ts_in (i := 1050) rfl rfl
set_option maxRecDepth 1000000 in
theorem am_cw94 : Cond.code am_m94.1.2.1 am_m94.1.2.2 am_m94.2.1.1 am_m94.2.1.2.1 ∈ am_ts := am_ts_in (i := 1054) rfl rfl
set_option maxRecDepth 1000000 in
theorem am_cw95 : Cond.code am_m95.1.2.1 am_m95.1.2.2 am_m95.2.1.1 am_m95.2.1.2.1 ∈ am_ts := am_ts_in (i := 1060) rfl rfl
set_option maxRecDepth 1000000 in
theorem am_cw96 : Cond.code am_m96.1.2.1 am_m96.1.2.2 am_m96.2.1.1 am_m96.2.1.2.1 ∈ am_ts := am_ts_in (i := 1064) rfl rfl
set_option maxRecDepth 1000000 in
theorem am_cw97 : Cond.code am_m97.1.2.1 am_m97.1.2.2 am_m97.2.1.1 am_m97.2.1.2.1 ∈ am_ts := am_ts_in (i := 1069) rfl rfl
set_option maxRecDepth 1000000 in
theorem am_cw98 : Cond.code am_m98.1.2.1 am_m98.1.2.2 am_m98.2.1.1 am_m98.2.1.2.1 ∈ am_ts := am_ts_in (i := 1073) rfl rfl
set_option maxRecDepth 1000000 in
theorem am_cw99 : Cond.code am_m99.1.2.1 am_m99.1.2.2 am_m99.2.1.1 am_m99.2.1.2.1 ∈ am_ts := am_ts_in (i := 1077) rfl rfl
set_option maxRecDepth 1000000 in
theorem am_cw100 : Cond.code am_m100.1.2.1 am_m100.1.2.2 am_m100.2.1.1 am_m100.2.1.2.1 ∈ am_ts := am_ts_in (i := 1083) rfl rfl
set_option maxRecDepth 1000000 in
theorem am_cw101 : Cond.code am_m101.1.2.1 am_m101.1.2.2 am_m101.2.1.1 am_m101.2.1.2.1 ∈ am_ts := am_ts_in (i := 1087) rfl rfl
set_option maxRecDepth 1000000 in
theorem am_cw102 : Cond.code am_m102.1.2.1 am_m102.1.2.2 am_m102.2.1.1 am_m102.2.1.2.1 ∈ am_ts := am_ts_in (i := 1095) rfl rfl
set_option maxRecDepth 1000000 in
theorem am_cw103 : Cond.code am_m103.1.2.1 am_m103.1.2.2 am_m103.2.1.1 am_m103.2.1.2.1 ∈ am_ts := am_ts_in (i := 1099) rfl rfl
set_option maxRecDepth 1000000 in
theorem am_cw104 : Cond.code am_m104.1.2.1 am_m104.1.2.2 am_m104.2.1.1 am_m104.2.1.2.1 ∈ am_ts := am_ts_in (i := 1103) rfl rfl
set_option maxRecDepth 1000000 in
theorem am_cw105 : Cond.code am_m105.1.2.1 am_m105.1.2.2 am_m105.2.1.1 am_m105.2.1.2.1 ∈ am_ts := am_ts_in (i := 1107) rfl rfl
set_option maxRecDepth 1000000 in
theorem am_cw106 : Cond.code am_m106.1.2.1 am_m106.1.2.2 am_m106.2.1.1 am_m106.2.1.2.1 ∈ am_ts := am_ts_in (i := 1111) rfl rfl
set_option maxRecDepth 1000000 in
theorem am_cw107 : Cond.code am_m107.1.2.1 am_m107.1.2.2 am_m107.2.1.1 am_m107.2.1.2.1 ∈ am_ts := am_ts_in (i := 1115) rfl rfl
set_option maxRecDepth 1000000 in
theorem am_cw108 : Cond.code am_m108.1.2.1 am_m108.1.2.2 am_m108.2.1.1 am_m108.2.1.2.1 ∈ am_ts := am_ts_in (i := 1118) rfl rfl
set_option maxRecDepth 1000000 in
theorem am_cw109 : Cond.code am_m109.1.2.1 am_m109.1.2.2 am_m109.2.1.1 am_m109.2.1.2.1 ∈ am_ts := am_ts_in (i := 1122) rfl rfl
set_option maxRecDepth 1000000 in
theorem am_cw110 : Cond.code am_m110.1.2.1 am_m110.1.2.2 am_m110.2.1.1 am_m110.2.1.2.1 ∈ am_ts := am_ts_in (i := 1126) rfl rfl
set_option maxRecDepth 1000000 in
theorem am_cw111 : Cond.code am_m111.1.2.1 am_m111.1.2.2 am_m111.2.1.1 am_m111.2.1.2.1 ∈ am_ts := am_ts_in (i := 1130) rfl rfl
set_option maxRecDepth 1000000 in
theorem am_cw112 : Cond.code am_m112.1.2.1 am_m112.1.2.2 am_m112.2.1.1 am_m112.2.1.2.1 ∈ am_ts := am_ts_in (i := 1134) rfl rfl
set_option maxRecDepth 1000000 in
theorem am_cw113 : Cond.code am_m113.1.2.1 am_m113.1.2.2 am_m113.2.1.1 am_m113.2.1.2.1 ∈ am_ts := am_ts_in (i := 1138) rfl rfl
set_option maxRecDepth 1000000 in
theorem am_cw114 : Cond.code am_m114.1.2.1 am_m114.1.2.2 am_m114.2.1.1 am_m114.2.1.2.1 ∈ am_ts := am_ts_in (i := 1142) rfl rfl
set_option maxRecDepth 1000000 in
theorem am_cw115 : Cond.code am_m115.1.2.1 am_m115.1.2.2 am_m115.2.1.1 am_m115.2.1.2.1 ∈ am_ts := am_ts_in (i := 1146) rfl rfl
set_option maxRecDepth 1000000 in
theorem am_cw116 : Cond.code am_m116.1.2.1 am_m116.1.2.2 am_m116.2.1.1 am_m116.2.1.2.1 ∈ am_ts := am_ts_in (i := 1150) rfl rfl
set_option maxRecDepth 1000000 in
theorem am_cw117 : Cond.code am_m117.1.2.1 am_m117.1.2.2 am_m117.2.1.1 am_m117.2.1.2.1 ∈ am_ts := am_ts_in (i := 1156) rfl rfl
set_option maxRecDepth 1000000 in
theorem am_cw118 : Cond.code am_m118.1.2.1 am_m118.1.2.2 am_m118.2.1.1 am_m118.2.1.2.1 ∈ am_ts := am_ts_in (i := 1161) rfl rfl
set_option maxRecDepth 1000000 in
theorem am_cw119 : Cond.code am_m119.1.2.1 am_m119.1.2.2 am_m119.2.1.1 am_m119.2.1.2.1 ∈ am_ts := am_ts_in (i := 1165) rfl rfl
set_option maxRecDepth 1000000 in
theorem am_cw120 : Cond.code am_m120.1.2.1 am_m120.1.2.2 am_m120.2.1.1 am_m120.2.1.2.1 ∈ am_ts := am_ts_in (i := 1169) rfl rfl
set_option maxRecDepth 1000000 in
theorem am_cw121 : Cond.code am_m121.1.2.1 am_m121.1.2.2 am_m121.2.1.1 am_m121.2.1.2.1 ∈ am_ts := am_ts_in (i := 1172) rfl rfl
set_option maxRecDepth 1000000 in
theorem am_cw122 : Cond.code am_m122.1.2.1 am_m122.1.2.2 am_m122.2.1.1 am_m122.2.1.2.1 ∈ am_ts := am_ts_in (i := 1176) rfl rfl
set_option maxRecDepth 1000000 in
theorem am_cw123 : Cond.code am_m123.1.2.1 am_m123.1.2.2 am_m123.2.1.1 am_m123.2.1.2.1 ∈ am_ts := am_ts_in (i := 1180) rfl rfl
set_option maxRecDepth 1000000 in
theorem am_cw124 : Cond.code am_m124.1.2.1 am_m124.1.2.2 am_m124.2.1.1 am_m124.2.1.2.1 ∈ am_ts := am_ts_in (i := 1184) rfl rfl
set_option maxRecDepth 1000000 in
theorem am_cw125 : Cond.code am_m125.1.2.1 am_m125.1.2.2 am_m125.2.1.1 am_m125.2.1.2.1 ∈ am_ts := am_ts_in (i := 1188) rfl rfl
set_option maxRecDepth 1000000 in
theorem am_cw126 : Cond.code am_m126.1.2.1 am_m126.1.2.2 am_m126.2.1.1 am_m126.2.1.2.1 ∈ am_ts := am_ts_in (i := 1192) rfl rfl
set_option maxRecDepth 1000000 in
theorem am_cw127 : Cond.code am_m127.1.2.1 am_m127.1.2.2 am_m127.2.1.1 am_m127.2.1.2.1 ∈ am_ts := am_ts_in (i := 1196) rfl rfl
set_option maxRecDepth 1000000 in
theorem am_cw128 : Cond.code am_m128.1.2.1 am_m128.1.2.2 am_m128.2.1.1 am_m128.2.1.2.1 ∈ am_ts := am_ts_in (i := 1200) rfl rfl
set_option maxRecDepth 1000000 in
theorem am_cw129 : Cond.code am_m129.1.2.1 am_m129.1.2.2 am_m129.2.1.1 am_m129.2.1.2.1 ∈ am_ts := am_ts_in (i := 1204) rfl rfl
set_option maxRecDepth 1000000 in
theorem am_cw130 : Cond.code am_m130.1.2.1 am_m130.1.2.2 am_m130.2.1.1 am_m130.2.1.2.1 ∈ am_ts := am_ts_in (i := 1208) rfl rfl
set_option maxRecDepth 1000000 in
theorem am_cw131 : Cond.code am_m131.1.2.1 am_m131.1.2.2 am_m131.2.1.1 am_m131.2.1.2.1 ∈ am_ts := am_ts_in (i := 1212) rfl rfl
set_option maxRecDepth 1000000 in
theorem am_cw132 : Cond.code am_m132.1.2.1 am_m132.1.2.2 am_m132.2.1.1 am_m132.2.1.2.1 ∈ am_ts := am_ts_in (i := 1216) rfl rfl
set_option maxRecDepth 1000000 in
theorem am_cw133 : Cond.code am_m133.1.2.1 am_m133.1.2.2 am_m133.2.1.1 am_m133.2.1.2.1 ∈ am_ts := am_ts_in (i := 1221) rfl rfl
set_option maxRecDepth 1000000 in
theorem am_cw134 : Cond.code am_m134.1.2.1 am_m134.1.2.2 am_m134.2.1.1 am_m134.2.1.2.1 ∈ am_ts := am_ts_in (i := 1225) rfl rfl
