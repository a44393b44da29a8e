set_option maxRecDepth 1000000 in
theorem am_cw0 : Cond.code am_m0.1.2.1 am_m0.1.2.2 am_m0.2.1.1 am_m0.2.1.2.1 ∈ am_ts := am_ts_in (i := 145) rfl rfl
set_option maxRecDepth 1000000 in
theorem am_cw1 : Cond.code am_m1.1.2.1 am_m1.1.2.2 am_m1.2.1.1 am_m1.2.1.2.1 ∈ am_ts := am_ts_in (i := 153) rfl rfl
set_option maxRecDepth 1000000 in
theorem am_cw2 : Cond.code am_m2.1.2.1 am_m2.1.2.2 am_m2.2.1.1 am_m2.2.1.2.1 ∈ am_ts := am_ts_in (i := 161) rfl rfl
set_option maxRecDepth 1000000 in
theorem am_cw3 : Cond.code am_m3.1.2.1 am_m3.1.2.2 am_m3.2.1.1 am_m3.2.1.2.1 ∈ am_ts := am_ts_in (i := 201) rfl rfl
set_option maxRecDepth 1000000 in
theorem am_cw4 : Cond.code am_m4.1.2.1 am_m4.1.2.2 am_m4.2.1.1 am_m4.2.1.2.1 ∈ am_ts := am_ts_in (i := 243) rfl rfl
set_option maxRecDepth 1000000 in
theorem am_cw5 : Cond.code am_m5.1.2.1 am_m5.1.2.2 am_m5.2.1.1 am_m5.2.1.2.1 ∈ am_ts := am_ts_in (i := 247) rfl rfl
set_option maxRecDepth 1000000 in
theorem am_cw6 : Cond.code am_m6.1.2.1 am_m6.1.2.2 am_m6.2.1.1 am_m6.2.1.2.1 ∈ am_ts := am_ts_in (i := 363) rfl rfl
set_option maxRecDepth 1000000 in
theorem am_cw7 : Cond.code am_m7.1.2.1 am_m7.1.2.2 am_m7.2.1.1 am_m7.2.1.2.1 ∈ am_ts := am_ts_in (i := 460) rfl rfl
set_option maxRecDepth 1000000 in
theorem am_cw8 : Cond.code am_m8.1.2.1 am_m8.1.2.2 am_m8.2.1.1 am_m8.2.1.2.1 ∈ am_ts := am_ts_in (i := 508) rfl rfl
set_option maxRecDepth 1000000 in
theorem am_cw9 : Cond.code am_m9.1.2.1 am_m9.1.2.2 am_m9.2.1.1 am_m9.2.1.2.1 ∈ am_ts := am_ts_in (i := 528) rfl rfl
set_option maxRecDepth 1000000 in
theorem am_cw10 : Cond.code am_m10.1.2.1 am_m10.1.2.2 am_m10.2.1.1 am_m10.2.1.2.1 ∈ am_ts := am_ts_in (i := 562) rfl rfl
set_option maxRecDepth 1000000 in
theorem am_cw11 : Cond.code am_m11.1.2.1 am_m11.1.2.2 am_m11.2.1.1 am_m11.2.1.2.1 ∈ am_ts := am_ts_in (i := 602) rfl rfl
set_option maxRecDepth 1000000 in
theorem am_cw12 : Cond.code am_m12.1.2.1 am_m12.1.2.2 am_m12.2.1.1 am_m12.2.1.2.1 ∈ am_ts := am_ts_in (i := 620) rfl rfl
set_option maxRecDepth 1000000 in
theorem am_cw13 : Cond.code am_m13.1.2.1 am_m13.1.2.2 am_m13.2.1.1 am_m13.2.1.2.1 ∈ am_ts := am_ts_in (i := 640) rfl rfl
set_option maxRecDepth 1000000 in
theorem am_cw14 : Cond.code am_m14.1.2.1 am_m14.1.2.2 am_m14.2.1.1 am_m14.2.1.2.1 ∈ am_ts := am_ts_in (i := 660) rfl rfl
set_option maxRecDepth 1000000 in
theorem am_cw15 : Cond.code am_m15.1.2.1 am_m15.1.2.2 am_m15.2.1.1 am_m15.2.1.2.1 ∈ am_ts := am_ts_in (i := 713) rfl rfl
set_option maxRecDepth 1000000 in
theorem am_cw16 : Cond.code am_m16.1.2.1 am_m16.1.2.2 am_m16.2.1.1 am_m16.2.1.2.1 ∈ am_ts := am_ts_in (i := 717) rfl rfl
set_option maxRecDepth 1000000 in
theorem am_cw17 : Cond.code am_m17.1.2.1 am_m17.1.2.2 am_m17.2.1.1 am_m17.2.1.2.1 ∈ am_ts := am_ts_in (i := 721) rfl rfl
set_option maxRecDepth 1000000 in
theorem am_cw18 : Cond.code am_m18.1.2.1 am_m18.1.2.2 am_m18.2.1.1 am_m18.2.1.2.1 ∈ am_ts := am_ts_in (i := 725) rfl rfl
set_option maxRecDepth 1000000 in
theorem am_cw19 : Cond.code am_m19.1.2.1 am_m19.1.2.2 am_m19.2.1.1 am_m19.2.1.2.1 ∈ am_ts := am_ts_in (i := 730) rfl rfl
set_option maxRecDepth 1000000 in
theorem am_cw20 : Cond.code am_m20.1.2.1 am_m20.1.2.2 am_m20.2.1.1 am_m20.2.1.2.1 ∈ am_ts := am_ts_in (i := 733) rfl rfl
set_option maxRecDepth 1000000 in
theorem am_cw21 : Cond.code am_m21.1.2.1 am_m21.1.2.2 am_m21.2.1.1 am_m21.2.1.2.1 ∈ am_ts := am_ts_in (i := 737) rfl rfl
set_option maxRecDepth 1000000 in
theorem am_cw22 : Cond.code am_m22.1.2.1 am_m22.1.2.2 am_m22.2.1.1 am_m22.2.1.2.1 ∈ am_ts := am_ts_in (i := 740) rfl rfl
set_option maxRecDepth 1000000 in
theorem am_cw23 : Cond.code am_m23.1.2.1 am_m23.1.2.2 am_m23.2.1.1 am_m23.2.1.2.1 ∈ am_ts := am_ts_in (i := 744) rfl rfl
set_option maxRecDepth 1000000 in
theorem am_cw24 : Cond.code am_m24.1.2.1 am_m24.1.2.2 am_m24.2.1.1 am_m24.2.1.2.1 ∈ am_ts := am_ts_in (i := 752) rfl rfl
set_option maxRecDepth 1000000 in
theorem am_cw25 : Cond.code am_m25.1.2.1 am_m25.1.2.2 am_m25.2.1.1 am_m25.2.1.2.1 ∈ am_ts := am_ts_in (i := 756) rfl rfl
set_option maxRecDepth 1000000 in
theorem am_cw26 : Cond.code am_m26.1.2.1 am_m26.1.2.2 am_m26.2.1.1 am_m26.2.1.2.1 ∈ am_ts := am_ts_in (i := 760) rfl rfl
set_option maxRecDepth 1000000 in
theorem am_cw27 : Cond.code am_m27.1.2.1 am_m27.1.2.2 am_m27.2.1.1 am_m27.2.1.2.1 ∈ am_ts := am_ts_in (i := 764) rfl rfl
set_option maxRecDepth 1000000 in
theorem am_cw28 : Cond.code am_m28.1.2.1 am_m28.1.2.2 am_m28.2.1.1 am_m28.2.1.2.1 ∈ am_ts := am_ts_in (i := 768) rfl rfl
set_option maxRecDepth 1000000 in
theorem am_cw29 : Cond.code am_m29.1.2.1 am_m29.1.2.2 am_m29.2.1.1 am_m29.2.1.2.1 ∈ am_ts := am_ts_in (i := 772) rfl rfl
set_option maxRecDepth 1000000 in
theorem am_cw30 : Cond.code am_m30.1.2.1 am_m30.1.2.2 am_m30.2.1.1 am_m30.2.1.2.1 ∈ am_ts := am_ts_in (i := 776) rfl rfl
set_option maxRecDepth 1000000 in
theorem am_cw31 : Cond.code am_m31.1.2.1 am_m31.1.2.2 am_m31.2.1.1 am_m31.2.1.2.1 ∈ am_ts := am_ts_in (i := 780) rfl rfl
set_option maxRecDepth 1000000 in
theorem am_cw32 : Cond.code am_m32.1.2.1 am_m32.1.2.2 am_m32.2.1.1 am_m32.2.1.2.1 ∈ am_ts := am_ts_in (i := 784) rfl rfl
set_option maxRecDepth 1000000 in
theorem am_cw33 : Cond.code am_m33.1.2.1 am_m33.1.2.2 am_m33.2.1.1 am_m33.2.1.2.1 ∈ am_ts := am_ts_in (i := 788) rfl rfl
set_option maxRecDepth 1000000 in
theorem am_cw34 : Cond.code am_m34.1.2.1 am_m34.1.2.2 am_m34.2.1.1 am_m34.2.1.2.1 ∈ am_ts := am_ts_in (i := 792) rfl rfl
set_option maxRecDepth 1000000 in
theorem am_cw35 : Cond.code am_m35.1.2.1 am_m35.1.2.2 am_m35.2.1.1 am_m35.2.1.2.1 ∈ am_ts := am_ts_in (i := 796) rfl rfl
set_option maxRecDepth 1000000 in
theorem am_cw36 : Cond.code am_m36.1.2.1 am_m36.1.2.2 am_m36.2.1.1 am_m36.2.1.2.1 ∈ am_ts := am_ts_in (i := 800) rfl rfl
set_option maxRecDepth 1000000 in
theorem am_cw37 : Cond.code am_m37.1.2.1 am_m37.1.2.2 am_m37.2.1.1 am_m37.2.1.2.1 ∈ am_ts := am_ts_in (i := 804) rfl rfl
set_option maxRecDepth 1000000 in
theorem am_cw38 : Cond.code am_m38.1.2.1 am_m38.1.2.2 am_m38.2.1.1 am_m38.2.1.2.1 ∈ am_ts := am_ts_in (i := 808) rfl rfl
set_option maxRecDepth 1000000 in
theorem am_cw39 : Cond.code am_m39.1.2.1 am_m39.1.2.2 am_m39.2.1.1 am_m39.2.1.2.1 ∈ am_ts := am_ts_in (i := 812) rfl rfl
set_option maxRecDepth 1000000 in
theorem am_cw40 : Cond.code am_m40.1.2.1 am_m40.1.2.2 am_m40.2.1.1 am_m40.2.1.2.1 ∈ am_ts := am_ts_in (i := 816) rfl rfl
set_option maxRecDepth 1000000 in
theorem am_cw41 : Cond.code am_m41.1.2.1 am_m41.1.2.2 am_m41.2.1.1 am_m41.2.1.2.1 ∈ am_ts := am_ts_in (i := 820) rfl rfl
set_option maxRecDepth 1000000 in
theorem am_cw42 : Cond.code am_m42.1.2.1 am_m42.1.2.2 am_m42.2.1.1 am_m42.2.1.2.1 ∈ am_ts := am_ts_in (i := 825) rfl rfl
set_option maxRecDepth 1000000 in
theorem am_cw43 : Cond.code am_m43.1.2.1 am_m43.1.2.2 am_m43.2.1.1 am_m43.2.1.2.1 ∈ am_ts := am_ts_in (i := 829) rfl rfl
set_option maxRecDepth 1000000 in
theorem am_cw44 : Cond.code am_m44.1.2.1 am_m44.1.2.2 am_m44.2.1.1 am_m44.2.1.2.1 ∈ am_ts := am_ts_in (i := 833) rfl rfl
