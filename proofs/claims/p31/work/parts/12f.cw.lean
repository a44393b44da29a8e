set_option maxRecDepth 1000000 in
theorem am_cw225 : Cond.code am_m225.1.2.1 am_m225.1.2.2 am_m225.2.1.1 am_m225.2.1.2.1 ∈ am_ts := am_ts_in (i := 1934) rfl rfl
set_option maxRecDepth 1000000 in
theorem am_cw226 : Cond.code am_m226.1.2.1 am_m226.1.2.2 am_m226.2.1.1 am_m226.2.1.2.1 ∈ am_ts := am_ts_in (i := 1938) rfl rfl
set_option maxRecDepth 1000000 in
theorem am_cw227 : Cond.code am_m227.1.2.1 am_m227.1.2.2 am_m227.2.1.1 am_m227.2.1.2.1 ∈ am_ts := am_ts_in (i := 1941) rfl rfl
set_option maxRecDepth 1000000 in
theorem am_cw228 : Cond.code am_m228.1.2.1 am_m228.1.2.2 am_m228.2.1.1 am_m228.2.1.2.1 ∈ am_ts := am_ts_in (i := 1945) rfl rfl
set_option maxRecDepth 1000000 in
theorem am_cw229 : Cond.code am_m229.1.2.1 am_m229.1.2.2 am_m229.2.1.1 am_m229.2.1.2.1 ∈ am_ts := am_ts_in (i := 1949) rfl rfl
set_option maxRecDepth 1000000 in
theorem am_cw230 : Cond.code am_m230.1.2.1 am_m230.1.2.2 am_m230.2.1.1 am_m230.2.1.2.1 ∈ am_ts := am_ts_in (i := 1953) rfl rfl
set_option maxRecDepth 1000000 in
theorem am_cw231 : Cond.code am_m231.1.2.1 am_m231.1.2.2 am_m231.2.1.1 am_m231.2.1.2.1 ∈ am_ts := am_ts_in (i := 1957) rfl rfl
set_option maxRecDepth 1000000 in
theorem am_cw232 : Cond.code am_m232.1.2.1 am_m232.1.2.2 am_m232.2.1.1 am_m232.2.1.2.1 ∈ am_ts := am_ts_in (i := 1961) rfl rfl
set_option maxRecDepth 1000000 in
theorem am_cw233 : Cond.code am_m233.1.2.1 am_m233.1.2.2 am_m233.2.1.1 am_m233.2.1.2.1 ∈ am_ts := am_ts_in (i := 1965) rfl rfl
set_option maxRecDepth 1000000 in
theorem am_cw234 : Cond.code am_m234.1.2.1 am_m234.1.2.2 am_m234.2.1.1 am_m234.2.1.2.1 ∈ am_ts := am_ts_in (i := 1971) rfl rfl
set_option maxRecDepth 1000000 in
theorem am_cw235 : Cond.code am_m235.1.2.1 am_m235.1.2.2 am_m235.2.1.1 am_m235.2.1.2.1 ∈ am_ts := am_ts_in (i := 1974) rfl rfl
set_option maxRecDepth 1000000 in
theorem am_cw236 : Cond.code am_m236.1.2.1 am_m236.1.2.2 am_m236.2.1.1 am_m236.2.1.2.1 ∈ am_ts := am_ts_in (i := 1978) rfl rfl
set_option maxRecDepth 1000000 in
theorem am_cw237 : Cond.code am_m237.1.2.1 am_m237.1.2.2 am_m237.2.1.1 am_m237.2.1.2.1 ∈ am_ts := am_ts_in (i := 1982) rfl rfl
set_option maxRecDepth 1000000 in
theorem am_cw238 : Cond.code am_m238.1.2.1 am_m238.1.2.2 am_m238.2.1.1 am_m238.2.1.2.1 ∈ am_ts := am_ts_in (i := 1986) rfl rfl
set_option maxRecDepth 1000000 in
theorem am_cw239 : Cond.code am_m239.1.2.1 am_m239.1.2.2 am_m239.2.1.1 am_m239.2.1.2.1 ∈ am_ts := am_ts_in (i := 1990) rfl rfl
set_option maxRecDepth 1000000 in
theorem am_cw240 : Cond.code am_m240.1.2.1 am_m240.1.2.2 am_m240.2.1.1 am_m240.2.1.2.1 ∈ am_ts := am_ts_in (i := 1994) rfl rfl
set_option maxRecDepth 1000000 in
theorem am_cw241 : Cond.code am_m241.1.2.1 am_m241.1.2.2 am_m241.2.1.1 am_m241.2.1.2.1 ∈ am_ts := am_ts_in (i := 1998) rfl rfl
set_option maxRecDepth 1000000 in
theorem am_cw242 : Cond.code am_m242.1.2.1 am_m242.1.2.2 am_m242.2.1.1 am_m242.2.1.2.1 ∈ am_ts := am_ts_in (i := 2002) rfl rfl
set_option maxRecDepth 1000000 in
theorem am_cw243 : Cond.code am_m243.1.2.1 am_m243.1.2.2 am_m243.2.1.1 am_m243.2.1.2.1 ∈ am_ts := am_ts_in (i := 2006) rfl rfl
set_option maxRecDepth 1000000 in
theorem am_cw244 : Cond.code am_m244.1.2.1 am_m244.1.2.2 am_m244.2.1.1 am_m244.2.1.2.1 ∈ am_ts := am_ts_in (i := 2010) rfl rfl
set_option maxRecDepth 1000000 in
theorem am_cw245 : Cond.code am_m245.1.2.1 am_m245.1.2.2 am_m245.2.1.1 am_m245.2.1.2.1 ∈ am_ts := am_ts_in (i := 2014) rfl rfl
set_option maxRecDepth 1000000 in
theorem am_cw246 : Cond.code am_m246.1.2.1 am_m246.1.2.2 am_m246.2.1.1 am_m246.2.1.2.1 ∈ am_ts := am_ts_in (i := 2018) rfl rfl
set_option maxRecDepth 1000000 in
theorem am_cw247 : Cond.code am_m247.1.2.1 am_m247.1.2.2 am_m247.2.1.1 am_m247.2.1.2.1 ∈ am_ts := am_ts_in (i := 2022) rfl rfl
set_option maxRecDepth 1000000 in
theorem am_cw248 : Cond.code am_m248.1.2.1 am_m248.1.2.2 am_m248.2.1.1 am_m248.2.1.2.1 ∈ am_ts := am_ts_in (i := 2026) rfl rfl
set_option maxRecDepth 1000000 in
theorem am_cw249 : Cond.code am_m249.1.2.1 am_m249.1.2.2 am_m249.2.1.1 am_m249.2.1.2.1 ∈ am_ts := am_ts_in (i := 2030) rfl rfl
set_option maxRecDepth 1000000 in
theorem am_cw250 : Cond.code am_m250.1.2.1 am_m250.1.2.2 am_m250.2.1.1 am_m250.2.1.2.1 ∈ am_ts := am_ts_in (i := 2034) rfl rfl
set_option maxRecDepth 1000000 in
theorem am_cw251 : Cond.code am_m251.1.2.1 am_m251.1.2.2 am_m251.2.1.1 am_m251.2.1.2.1 ∈ am_ts := am_ts_in (i := 2038) rfl rfl
set_option maxRecDepth 1000000 in
theorem am_cw252 : Cond.code am_m252.1.2.1 am_m252.1.2.2 am_m252.2.1.1 am_m252.2.1.2.1 ∈ am_ts := am_ts_in (i := 2042) rfl rfl
set_option maxRecDepth 1000000 in
theorem am_cw253 : Cond.code am_m253.1.2.1 am_m253.1.2.2 am_m253.2.1.1 am_m253.2.1.2.1 ∈ am_ts := am_ts_in (i := 2046) rfl rfl
