set_option maxRecDepth 1000000 in
theorem am_cw45 : Cond.code am_m45.1.2.1 am_m45.1.2.2 am_m45.2.1.1 am_m45.2.1.2.1 ∈ am_ts := am_ts_in (i := 837) rfl rfl
set_option maxRecDepth 1000000 in
theorem am_cw46 : Cond.code am_m46.1.2.1 am_m46.1.2.2 am_m46.2.1.1 am_m46.2.1.2.1 ∈ am_ts := am_ts_in (i := 841) rfl rfl
set_option maxRecDepth 1000000 in
theorem am_cw47 : Cond.code am_m47.1.2.1 am_m47.1.2.2 am_m47.2.1.1 am_m47.2.1.2.1 ∈ am_ts := am_ts_in (i := 844) rfl rfl
set_option maxRecDepth 1000000 in
theorem am_cw48 : Cond.code am_m48.1.2.1 am_m48.1.2.2 am_m48.2.1.1 am_m48.2.1.2.1 ∈ am_ts := am_ts_in (i := 848) rfl rfl
set_option maxRecDepth 1000000 in
theorem am_cw49 : Cond.code am_m49.1.2.1 am_m49.1.2.2 am_m49.2.1.1 am_m49.2.1.2.1 ∈ am_ts := am_ts_in (i := 855) rfl rfl
set_option maxRecDepth 1000000 in
theorem am_cw50 : Cond.code am_m50.1.2.1 am_m50.1.2.2 am_m50.2.1.1 am_m50.2.1.2.1 ∈ am_ts := am_ts_in (i := 859) rfl rfl
set_option maxRecDepth 1000000 in
theorem am_cw51 : Cond.code am_m51.1.2.1 am_m51.1.2.2 am_m51.2.1.1 am_m51.2.1.2.1 ∈ am_ts := am_ts_in (i := 863) rfl rfl
set_option maxRecDepth 1000000 in
theorem am_cw52 : Cond.code am_m52.1.2.1 am_m52.1.2.2 am_m52.2.1.1 am_m52.2.1.2.1 ∈ am_ts := am_ts_in (i := 867) rfl rfl
set_option maxRecDepth 1000000 in
theorem am_cw53 : Cond.code am_m53.1.2.1 am_m53.1.2.2 am_m53.2.1.1 am_m53.2.1.2.1 ∈ am_ts := am_ts_in (i := 871) rfl rfl
set_option maxRecDepth 1000000 in
theorem am_cw54 : Cond.code am_m54.1.2.1 am_m54.1.2.2 am_m54.2.1.1 am_m54.2.1.2.1 ∈ am_ts := am_ts_in (i := 875) rfl rfl
set_option maxRecDepth 1000000 in
theorem am_cw55 : Cond.code am_m55.1.2.1 am_m55.1.2.2 am_m55.2.1.1 am_m55.2.1.2.1 ∈ am_ts := am_ts_in (i := 878) rfl rfl
set_option maxRecDepth 1000000 in
theorem am_cw56 : Cond.code am_m56.1.2.1 am_m56.1.2.2 am_m56.2.1.1 am_m56.2.1.2.1 ∈ am_ts := am_ts_in (i := 884) rfl rfl
set_option maxRecDepth 1000000 in
theorem am_cw57 : Cond.code am_m57.1.2.1 am_m57.1.2.2 am_m57.2.1.1 am_m57.2.1.2.1 ∈ am_ts := am_ts_in (i := 889) rfl rfl
set_option maxRecDepth 1000000 in
theorem am_cw58 : Cond.code am_m58.1.2.1 am_m58.1.2.2 am_m58.2.1.1 am_m58.2.1.2.1 ∈ am_ts := am_ts_in (i := 893) rfl rfl
set_option maxRecDepth 1000000 in
theorem am_cw59 : Cond.code am_m59.1.2.1 am_m59.1.2.2 am_m59.2.1.1 am_m59.2.1.2.1 ∈ am_ts := am_ts_in (i := 897) rfl rfl
set_option maxRecDepth 1000000 in
theorem am_cw60 : Cond.code am_m60.1.2.1 am_m60.1.2.2 am_m60.2.1.1 am_m60.2.1.2.1 ∈ am_ts := am_ts_in (i := 901) rfl rfl
set_option maxRecDepth 1000000 in
theorem am_cw61 : Cond.code am_m61.1.2.1 am_m61.1.2.2 am_m61.2.1.1 am_m61.2.1.2.1 ∈ am_ts := am_ts_in (i := 907) rfl rfl
set_option maxRecDepth 1000000 in
theorem am_cw62 : Cond.code am_m62.1.2.1 am_m62.1.2.2 am_m62.2.1.1 am_m62.2.1.2.1 ∈ am_ts := am_ts_in (i := 910) rfl rfl
set_option maxRecDepth 1000000 in
theorem am_cw63 : Cond.code am_m63.1.2.1 am_m63.1.2.2 am_m63.2.1.1 am_m63.2.1.2.1 ∈ am_ts := am_ts_in (i := 915) rfl rfl
set_option maxRecDepth 1000000 in
theorem am_cw64 : Cond.code am_m64.1.2.1 am_m64.1.2.2 am_m64.2.1.1 am_m64.2.1.2.1 ∈ am_ts := am_ts_in (i := 919) rfl rfl
set_option maxRecDepth 1000000 in
theorem am_cw65 : Cond.code am_m65.1.2.1 am_m65.1.2.2 am_m65.2.1.1 am_m65.2.1.2.1 ∈ am_ts := am_ts_in (i := 924) rfl rfl
set_option maxRecDepth 1000000 in
theorem am_cw66 : Cond.code am_m66.1.2.1 am_m66.1.2.2 am_m66.2.1.1 am_m66.2.1.2.1 ∈ am_ts := am_ts_in (i := 928) rfl rfl
set_option maxRecDepth 1000000 in
theorem am_cw67 : Cond.code am_m67.1.2.1 am_m67.1.2.2 am_m67.2.1.1 am_m67.2.1.2.1 ∈ am_ts := am_ts_in (i := 932) rfl rfl
set_option maxRecDepth 1000000 in
theorem am_cw68 : Cond.code am_m68.1.2.1 am_m68.1.2.2 am_m68.2.1.1 am_m68.2.1.2.1 ∈ am_ts := am_ts_in (i := 937) rfl rfl
set_option maxRecDepth 1000000 in
theorem am_cw69 : Cond.code am_m69.1.2.1 am_m69.1.2.2 am_m69.2.1.1 am_m69.2.1.2.1 ∈ am_ts := am_ts_in (i := 942) rfl rfl
set_option maxRecDepth 1000000 in
theorem am_cw70 : Cond.code am_m70.1.2.1 am_m70.1.2.2 am_m70.2.1.1 am_m70.2.1.2.1 ∈ am_ts := am_ts_in (i := 946) rfl rfl
set_option maxRecDepth 1000000 in
theorem am_cw71 : Cond.code am_m71.1.2.1 am_m71.1.2.2 am_m71.2.1.1 am_m71.2.1.2.1 ∈ am_ts := am_ts_in (i := 950) rfl rfl
set_option maxRecDepth 1000000 in
theorem am_cw72 : Cond.code am_m72.1.2.1 am_m72.1.2.2 am_m72.2.1.1 am_m72.2.1.2.1 ∈ am_ts := am_ts_in (i := 954) rfl rfl
set_option maxRecDepth 1000000 in
theorem am_cw73 : Cond.code am_m73.1.2.1 am_m73.1.2.2 am_m73.2.1.1 am_m73.2.1.2.1 ∈ am_ts := am_ts_in (i := 958) rfl rfl
set_option maxRecDepth 1000000 in
theorem am_cw74 : Cond.code am_m74.1.2.1 am_m74.1.2.2 am_m74.2.1.1 am_m74.2.1.2.1 ∈ am_ts := am_ts_in (i := 964) rfl rfl
set_option maxRecDepth 1000000 in
theorem am_cw75 : Cond.code am_m75.1.2.1 am_m75.1.2.2 am_m75.2.1.1 am_m75.2.1.2.1 ∈ am_ts := am_ts_in (i := 968) rfl rfl
set_option maxRecDepth 1000000 in
theorem am_cw76 : Cond.code am_m76.1.2.1 am_m76.1.2.2 am_m76.2.1.1 am_m76.2.1.2.1 ∈ am_ts := am_ts_in (i := 972) rfl rfl
set_option maxRecDepth 1000000 in
theorem am_cw77 : Cond.code am_m77.1.2.1 am_m77.1.2.2 am_m77.2.1.1 am_m77.2.1.2.1 ∈ am_ts := am_ts_in (i := 979) rfl rfl
set_option maxRecDepth 1000000 in
theorem am_cw78 : Cond.code am_m78.1.2.1 am_m78.1.2.2 am_m78.2.1.1 am_m78.2.1.2.1 ∈ am_ts := am_ts_in (i := 983) rfl rfl
set_option maxRecDepth 1000000 in
theorem am_cw79 : Cond.code am_m79.1.2.1 am_m79.1.2.2 am_m79.2.1.1 am_m79.2.1.2.1 ∈ am_ts := am_ts_in (i := 987) rfl rfl
set_option maxRecDepth 1000000 in
theorem am_cw80 : Cond.code am_m80.1.2.1 am_m80.1.2.2 am_m80.2.1.1 am_m80.2.1.2.1 ∈ am_ts := am_ts_in (i := 991) rfl rfl
set_option maxRecDepth 1000000 in
theorem am_cw81 : Cond.code am_m81.1.2.1 am_m81.1.2.2 am_m81.2.1.1 am_m81.2.1.2.1 ∈ am_ts := am_ts_in (i := 995) rfl rfl
set_option maxRecDepth 1000000 in
theorem am_cw82 : Cond.code am_m82.1.2.1 am_m82.1.2.2 am_m82.2.1.1 am_m82.2.1.2.1 ∈ am_ts := am_ts_in (i := 999) rfl rfl
set_option maxRecDepth 1000000 in
theorem am_cw83 : Cond.code am_m83.1.2.1 am_m83.1.2.2 am_m83.2.1.1 am_m83.2.1.2.1 ∈ am_ts := am_ts_in (i := 1006) rfl rfl
set_option maxRecDepth 1000000 in
theorem am_cw84 : Cond.code am_m84.1.2.1 am_m84.1.2.2 am_m84.2.1.1 am_m84.2.1.2.1 ∈ am_ts := am_ts_in (i := 1011) rfl rfl
set_option maxRecDepth 1000000 in
theorem am_cw85 : Cond.code am_m85.1.2.1 am_m85.1.2.2 am_m85.2.1.1 am_m85.2.1.2.1 ∈ am_ts := am_ts_in (i := 1015) rfl rfl
set_option maxRecDepth 1000000 in
theorem am_cw86 : Cond.code am_m86.1.2.1 am_m86.1.2.2 am_m86.2.1.1 am_m86.2.1.2.1 ∈ am_ts := am_ts_in (i := 1020) rfl rfl
set_option maxRecDepth 1000000 in
theorem am_cw87 : Cond.code am_m87.1.2.1 am_m87.1.2.2 am_m87.2.1.1 am_m87.2.1.2.1 ∈ am_ts := am_ts_in (i := 1024) rfl rfl
set_option maxRecDepth 1000000 in
theorem am_cw88 : Cond.code am_m88.1.2.1 am_m88.1.2.2 am_m88.2.1.1 am_m88.2.1.2.1 ∈ am_ts := am_ts_in (i := 1028) rfl rfl
set_option maxRecDepth 1000000 in
theorem am_cw89 : Cond.code am_m89.1.2.1 am_m89.1.2.2 am_m89.2.1.1 am_m89.2.1.2.1 ∈ am_ts := am_ts_in (i := 1033) rfl rfl
