/-! ===== CHECKS (wip/s/mkcert.py) ===== -/
-- AirBedModel.number
def ab_c311 : List (Option ab_K) := [some ([([(0, ab_rf [164]), (1, ab_i 1 1), (2, ab_i 99 99)], [], [])], 17, []), none, none, none, some ([([(0, ab_rf [164]), (1, ab_i 1 1), (2, ab_i 99 99)], [], [])], 3, []), none, none, none, some ([([(0, ab_rf [164]), (1, ab_i 1 1), (2, ab_i 99 99)], [], [((165, 8), ab_i 3 3)])], 13, []), none, none, none, none, none, none, none, none, none, some ([([(0, ab_rf [164]), (1, ab_i 1 1), (2, ab_i 99 99)], [], [((165, 8), ab_i 3 3), ((165, 9), ab_i 1 99)])], 7, []), none, none, none, none, none, none, none]
set_option maxRecDepth 1000000 in
theorem ab_q311 : ab_chk ab_tab [(164, 12)] ab_s311 [ab_s288, ab_s296, ab_s312] [] ab_c311 [] am_m161 = true := by decide +kernel
-- AirBedModel.pumpLine
def ab_c300 : List (Option ab_K) := [some ([([(0, ab_rf [164])], [], [])], 27, []), none, none, none, none, none, none, none, none, some ([([(0, ab_rf [164])], [], [((165, 4), ab_i 1 4), ((165, 5), ab_i 0 700), ((168, 1), ab_i 1 1)])], 1, []), none, some ([([(0, ab_rf [164])], [], [((165, 11), ab_i 1 99), ((168, 1), ab_i 1 1)])], 18, []), none, none, none, none, none, none, none, none, none, none, none, none, some ([([(0, ab_rf [164])], [], [((165, 11), ab_i 1 99), ((168, 1), ab_i 1 1), ((169, 8), ab_i 1 99)])], 7, []), none, none, none, none, none,
  none, none]
set_option maxRecDepth 1000000 in
theorem ab_q300 : ab_chk ab_tab [(168, 9), (168, 10)] ab_s300 [ab_s310, ab_s311] [] ab_c300 [] am_m167 = true := by decide +kernel
-- AirBedModel.isIn
def ab_c336 : List (Option ab_K) := [some ([([(0, ab_top), (1, ab_i 0 0), (2, ab_i 99 99)], [], [])], 8, []), none, none, none, none, none, none, none, some ([([(0, ab_top), (1, ab_i 0 0), (2, ab_i 99 99)], [], [])], 1, []), some ([([(0, ab_i 0 99), (1, ab_i 0 0), (2, ab_i 99 99)], [ab_n (ab_i 1 1)], []), ([(0, ab_top), (1, ab_i 0 0), (2, ab_i 99 99)], [ab_n (ab_i 0 0)], [])], 0, [])]
set_option maxRecDepth 1000000 in
theorem ab_q336 : ab_chk ab_tab [] ab_s336 [] [(0, 0)] ab_c336 [] am_m162 = true := by decide +kernel
-- AirBedModel.number
def ab_c335 : List (Option ab_K) := [some ([([(0, ab_rf [164]), (1, ab_i 0 0), (2, ab_i 99 99)], [], [])], 17, []), none, none, none, some ([([(0, ab_rf [164]), (1, ab_i 0 0), (2, ab_i 99 99)], [], [])], 3, []), none, none, none, some ([([(0, ab_rf [164]), (1, ab_i 0 0), (2, ab_i 99 99)], [], [((165, 8), ab_i 3 3)])], 13, []), none, none, none, none, none, none, none, none, none, some ([([(0, ab_rf [164]), (1, ab_i 0 0), (2, ab_i 99 99)], [], [((165, 8), ab_i 3 3), ((165, 9), ab_i 0 99)])], 7, []), none, none, none, none, none, none, none]
set_option maxRecDepth 1000000 in
theorem ab_q335 : ab_chk ab_tab [(164, 12)] ab_s335 [ab_s288, ab_s296, ab_s336] [] ab_c335 [] am_m161 = true := by decide +kernel
-- AirBedModel.find
def ab_c314 : List (Option ab_K) := [some ([([(0, ab_rf [175]), (1, ab_i 3 3), (2, ab_i 0 2), (3, ab_top)], [], [])], 38, []), none, some ([([(0, ab_rf [175]), (1, ab_i 3 3), (2, ab_i 0 2), (3, ab_top), (4, ab_i 0 2)], [], [])], 12, [(12, 2, 1, (0, 4))]), none, none, none, none, none, none, none, none, none, some ([([(0, ab_rf [175]), (1, ab_i 3 3), (2, ab_i 1 2), (3, ab_top), (4, ab_i 0 1)], [], [])], 1, []), none, some ([([(0, ab_rf [175]), (1, ab_i 3 3), (2, ab_i 1 2), (3, ab_top), (4, ab_i 0 1)], [], [])], 2, [(12, 2, 1, (0, 4))]), some ([([(0, ab_rf [175]), (1, ab_i 3 3), (2, ab_i 1 2), (3, ab_top), (4, ab_i 1 2)], [], [])], 13, [(12, 2, 1, (0, 4))]), some ([([(0, ab_rf [175]), (1, ab_i 3 3), (2, ab_i 0 2), (3, ab_top), (4, ab_i 0 2)], [], [])], 1, []), none]
set_option maxRecDepth 1000000 in
theorem ab_q314 : ab_chk ab_tab [] ab_s314 [] [(2, 2)] ab_c314 [] am_m165 = true := by decide +kernel
-- AirBedModel.newName
def ab_c313 : List (Option ab_K) := [some ([([(0, ab_rf [164]), (1, ab_rf [175]), (2, ab_i 3 3), (3, ab_i 0 2)], [], [])], 21, []), none, none, none, some ([([(0, ab_rf [164]), (1, ab_rf [175]), (2, ab_i 3 3), (3, ab_i 0 2)], [], [])], 3, []), none, none, none, some ([([(0, ab_rf [164]), (1, ab_rf [175]), (2, ab_i 3 3), (3, ab_i 0 2)], [], [((165, 8), ab_i 2 2)])], 17, []), none, none, none, none, none, none, none, none, none, none, some ([([(0, ab_rf [164]), (1, ab_rf [175]), (2, ab_i 3 3), (3, ab_i 0 2)], [], [((165, 8), ab_i 2 2)])], 10, []), none, none, none, none, none, none, none, none, none, none]
set_option maxRecDepth 1000000 in
theorem ab_q313 : ab_chk ab_tab [(175, 0)] ab_s313 [ab_s288, ab_s296, ab_s314] [] ab_c313 [] am_m164 = true := by decide +kernel
-- AirBedModel.isIn
def ab_c316 : List (Option ab_K) := [some ([([(0, ab_top), (1, ab_i 1 1), (2, ab_i 100 100)], [], [])], 8, []), none, none, none, none, none, none, none, some ([([(0, ab_top), (1, ab_i 1 1), (2, ab_i 100 100)], [], [])], 1, []), some ([([(0, ab_i 1 100), (1, ab_i 1 1), (2, ab_i 100 100)], [ab_n (ab_i 1 1)], []), ([(0, ab_top), (1, ab_i 1 1), (2, ab_i 100 100)], [ab_n (ab_i 0 0)], [])], 0, [])]
set_option maxRecDepth 1000000 in
theorem ab_q316 : ab_chk ab_tab [] ab_s316 [] [(0, 0)] ab_c316 [] am_m162 = true := by decide +kernel
-- AirBedModel.number
def ab_c315 : List (Option ab_K) := [some ([([(0, ab_rf [164]), (1, ab_i 1 1), (2, ab_i 100 100)], [], [])], 17, []), none, none, none, some ([([(0, ab_rf [164]), (1, ab_i 1 1), (2, ab_i 100 100)], [], [])], 3, []), none, none, none, some ([([(0, ab_rf [164]), (1, ab_i 1 1), (2, ab_i 100 100)], [], [((165, 8), ab_i 3 3)])], 13, []), none, none, none, none, none, none, none, none, none, some ([([(0, ab_rf [164]), (1, ab_i 1 1), (2, ab_i 100 100)], [], [((165, 8), ab_i 3 3), ((165, 9), ab_i 1 100)])], 7, []), none, none, none, none, none, none, none]
set_option maxRecDepth 1000000 in
theorem ab_q315 : ab_chk ab_tab [(164, 12)] ab_s315 [ab_s288, ab_s296, ab_s316] [] ab_c315 [] am_m161 = true := by decide +kernel
-- AirBedModel.trialLine
def ab_c302 : List (Option ab_K) := [some ([([(0, ab_rf [164])], [], [])], 49, []), none, none, none, none, none, none, none, some ([([(0, ab_rf [164])], [], [((165, 20), ab_i 0 2)])], 45, []), none, none, none, none, none, none, none, none, none, none, none, none, none, none, some ([([(0, ab_rf [164])], [], [((165, 4), ab_i 1 4), ((165, 5), ab_i 0 700), ((165, 20), ab_i 0 2)])], 1, []), none, some ([([(0, ab_rf [164])], [], [((165, 11), ab_i 1 100), ((165, 20), ab_i 0 2)])], 30, []), none, none, none, none,
  none, none, none, none, none, none, none, none, none, none, none, some ([([(0, ab_rf [164])], [], [((165, 11), ab_i 1 99), ((165, 20), ab_i 0 2)])], 16, []), none, none, none, none, none, none, none, none, none, none, none, none, none, none, none, none]
set_option maxRecDepth 1000000 in
theorem ab_q302 : ab_chk ab_tab [(164, 21), (176, 0), (177, 0)] ab_s302 [ab_s288, ab_s311, ab_s315, ab_s296, ab_s313] [] ab_c302 [] am_m169 = true := by decide +kernel
-- AirBedModel.isOnce
def ab_c303 : List (Option ab_K) := [some ([([(0, ab_rf [164]), (1, ab_i 2 2)], [], [])], 13, []), none, none, none, none, none, none, none, none, some ([([(0, ab_rf [164]), (1, ab_i 2 2)], [], [((168, 2), ab_i 0 0)])], 8, []), none, none, none, none, none, none, none, none]
set_option maxRecDepth 1000000 in
theorem ab_q303 : ab_chk ab_tab [(167, 3)] ab_s303 [ab_s288, ab_s296] [] ab_c303 [] am_m160 = true := by decide +kernel
-- AirBedModel.isOnce
def ab_c304 : List (Option ab_K) := [some ([([(0, ab_rf [164]), (1, ab_i 3 3)], [], [])], 13, []), none, none, none, none, none, none, none, none, some ([([(0, ab_rf [164]), (1, ab_i 3 3)], [], [((168, 3), ab_i 0 0)])], 8, []), none, none, none, none, none, none, none, none]
set_option maxRecDepth 1000000 in
theorem ab_q304 : ab_chk ab_tab [(167, 4)] ab_s304 [ab_s288, ab_s296] [] ab_c304 [] am_m160 = true := by decide +kernel
-- AirBedModel.isSign
def ab_c317 : List (Option ab_K) := [some ([([(0, ab_rf [164]), (1, ab_i 40 59)], [], [])], 10, []), none, none, none, none, none, none, none, none, none, some ([([(0, ab_rf [164]), (1, ab_i 40 59)], [], [])], 1, []), some ([([(0, ab_rf [164]), (1, ab_i 40 59)], [ab_n (ab_i 1 1)], [((165, 8), ab_i 4 4), ((165, 9), ab_i 40 59)]), ([(0, ab_rf [164]), (1, ab_i 40 59)], [ab_n (ab_i 0 0)], [])], 0, [])]
set_option maxRecDepth 1000000 in
theorem ab_q317 : ab_chk ab_tab [] ab_s317 [] [] ab_c317 [] am_m171 = true := by decide +kernel
-- AirBedModel.isKey
def ab_c320 : List (Option ab_K) := [some ([([(0, ab_rf [164]), (1, ab_i 12 14)], [], [])], 10, []), none, none, none, none, none, none, none, none, none, some ([([(0, ab_rf [164]), (1, ab_i 12 14)], [], [])], 1, []), some ([([(0, ab_rf [164]), (1, ab_i 12 14)], [ab_n (ab_i 1 1)], [((165, 8), ab_i 1 1), ((165, 9), ab_i 12 14)]), ([(0, ab_rf [164]), (1, ab_i 12 14)], [ab_n (ab_i 0 0)], [])], 0, [])]
set_option maxRecDepth 1000000 in
theorem ab_q320 : ab_chk ab_tab [] ab_s320 [] [] ab_c320 [] am_m174 = true := by decide +kernel
-- AirBedModel.isCounted
def ab_c321 : List (Option ab_K) := [some ([([(0, ab_rf [164])], [], [])], 11, []), none, none, none, none, none, none, none, some ([([(0, ab_rf [164])], [], [((165, 44), ab_i 0 63)])], 7, []), none, none, none, none, none, none, none]
set_option maxRecDepth 1000000 in
theorem ab_q321 : ab_chk ab_tab [(164, 45)] ab_s321 [ab_s296] [] ab_c321 [] am_m175 = true := by decide +kernel
-- AirBedModel.nameMet
def ab_c322 : List (Option ab_K) := [some ([([(0, ab_rf [164])], [], [])], 21, []), none, none, none, some ([([(0, ab_rf [164])], [], [])], 2, []), none, some ([([(0, ab_rf [164])], [], [((165, 8), ab_i 1 1)])], 17, []), none, none, none, none, none, some ([([(0, ab_rf [164])], [], [((165, 8), ab_i 1 1)])], 13, []), none, none, none, none, none, none, none, none, none, none, some ([([(0, ab_rf [164])], [], [((165, 8), ab_i 1 1), ((165, 9), ab_i (-2147483648) 17)])], 9, []), none, none, none, none, none, none,
  none, none, some ([([(0, ab_rf [164])], [], [((165, 8), ab_i 1 1), ((165, 9), ab_i (-2147483648) 14)])], 1, []), some ([([(0, ab_rf [164])], [ab_n (ab_i (-1) (-1))], []), ([(0, ab_rf [164])], [ab_n ab_top], [((165, 8), ab_i 1 1), ((165, 9), ab_i 11 2147483647)])], 0, [])]
set_option maxRecDepth 1000000 in
theorem ab_q322 : ab_chk ab_tab [] ab_s322 [] [] ab_c322 [] am_m176 = true := by decide +kernel
-- AirBedModel.rank
def ab_c326 : List (Option ab_K) := [some ([([(0, ab_top)], [], [])], 20, []), none, none, none, none, some ([([(0, ab_i (-2147483648) 12)], [], [])], 17, []), none, none, none, none, some ([([(0, ab_i (-2147483648) 10)], [], [])], 14, []), none, none, none, none, some ([([(0, ab_i (-2147483648) 4)], [], [])], 11, []), none, none, none, none, some ([([(0, ab_i (-2147483648) 4)], [], [])], 8, []), none, none, none, none, some ([([(0, ab_i (-2147483648) 4)], [], [])], 5, []), none, none, none, none,
  some ([([(0, ab_i (-2147483648) 3)], [], [])], 1, []), some ([([(0, ab_i 2 2147483647)], [ab_n (ab_i 2 6)], []), ([(0, ab_i 4 4)], [ab_n (ab_i 1 1)], []), ([(0, ab_i (-2147483648) 3)], [ab_n (ab_i 0 0)], [])], 0, [])]
set_option maxRecDepth 1000000 in
theorem ab_q326 : ab_chk ab_tab [] ab_s326 [] [(0, 0)] ab_c326 [] am_m180 = true := by decide +kernel
-- AirBedModel.isIn
def ab_c161 : List (Option ab_K) := [some ([([(0, ab_top), (1, ab_i 0 0), (2, ab_i 999 999)], [], [])], 8, []), none, none, none, none, none, none, none, some ([([(0, ab_top), (1, ab_i 0 0), (2, ab_i 999 999)], [], [])], 1, []), some ([([(0, ab_i 0 999), (1, ab_i 0 0), (2, ab_i 999 999)], [ab_n (ab_i 1 1)], []), ([(0, ab_top), (1, ab_i 0 0), (2, ab_i 999 999)], [ab_n (ab_i 0 0)], [])], 0, [])]
set_option maxRecDepth 1000000 in
theorem ab_q161 : ab_chk ab_tab [] ab_s161 [] [(0, 0)] ab_c161 [] am_m162 = true := by decide +kernel
-- AirBedModel.number
def ab_c337 : List (Option ab_K) := [some ([([(0, ab_rf [164]), (1, ab_i 0 0), (2, ab_i 999 999)], [], [])], 17, []), none, none, none, some ([([(0, ab_rf [164]), (1, ab_i 0 0), (2, ab_i 999 999)], [], [])], 3, []), none, none, none, some ([([(0, ab_rf [164]), (1, ab_i 0 0), (2, ab_i 999 999)], [], [((165, 8), ab_i 3 3)])], 13, []), none, none, none, none, none, none, none, none, none, some ([([(0, ab_rf [164]), (1, ab_i 0 0), (2, ab_i 999 999)], [], [((165, 8), ab_i 3 3), ((165, 9), ab_i 0 999)])], 7, []), none, none, none, none, none, none, none]
set_option maxRecDepth 1000000 in
theorem ab_q337 : ab_chk ab_tab [(164, 12)] ab_s337 [ab_s288, ab_s296, ab_s161] [] ab_c337 [] am_m161 = true := by decide +kernel
-- AirBedModel.isIn
def ab_c339 : List (Option ab_K) := [some ([([(0, ab_top), (1, ab_i 0 0), (2, ab_i 99999 99999)], [], [])], 8, []), none, none, none, none, none, none, none, some ([([(0, ab_top), (1, ab_i 0 0), (2, ab_i 99999 99999)], [], [])], 1, []), some ([([(0, ab_i 0 99999), (1, ab_i 0 0), (2, ab_i 99999 99999)], [ab_n (ab_i 1 1)], []), ([(0, ab_top), (1, ab_i 0 0), (2, ab_i 99999 99999)], [ab_n (ab_i 0 0)], [])], 0, [])]
set_option maxRecDepth 1000000 in
theorem ab_q339 : ab_chk ab_tab [] ab_s339 [] [(0, 0)] ab_c339 [] am_m162 = true := by decide +kernel
-- AirBedModel.number
def ab_c338 : List (Option ab_K) := [some ([([(0, ab_rf [164]), (1, ab_i 0 0), (2, ab_i 99999 99999)], [], [])], 17, []), none, none, none, some ([([(0, ab_rf [164]), (1, ab_i 0 0), (2, ab_i 99999 99999)], [], [])], 3, []), none, none, none, some ([([(0, ab_rf [164]), (1, ab_i 0 0), (2, ab_i 99999 99999)], [], [((165, 8), ab_i 3 3)])], 13, []), none, none, none, none, none, none, none, none, none, some ([([(0, ab_rf [164]), (1, ab_i 0 0), (2, ab_i 99999 99999)], [], [((165, 8), ab_i 3 3), ((165, 9), ab_i 0 99999)])], 7, []), none, none, none, none, none, none, none]
set_option maxRecDepth 1000000 in
theorem ab_q338 : ab_chk ab_tab [(164, 12)] ab_s338 [ab_s288, ab_s296, ab_s339] [] ab_c338 [] am_m161 = true := by decide +kernel
-- AirBedModel.number1
def ab_c272 : List (Option ab_K) := [some ([([(0, ab_rf [164]), (1, ab_i 1 99999)], [], [])], 18, []), none, none, none, none, none, none, none, none, none, none, none, none, none, none, none, none, none, none]
set_option maxRecDepth 1000000 in
theorem ab_q272 : ab_chk ab_tab [(164, 60)] ab_s272 [] [] ab_c272 [] am_m148 = true := by decide +kernel
-- AirBedModel.atFirst
def ab_c356 : List (Option ab_K) := [some ([([(0, ab_rf [164]), (1, ab_i 0 1)], [], [])], 187, []), none, none, none, none, none, none, none, none, none, none, none, none, none, none, none, none, none, none, none, none, none, none, none, none, none, none, none, some ([([(0, ab_rf [164]), (1, ab_i 0 1), (2, ab_i 0 4)], [], [])], 31, [(32, 4, 1, (0, 2))]), none,
  none, none, none, none, none, none, none, none, none, none, none, none, none, none, none, none, none, none, none, none, none, none, none, none, none, none, none, none, none, some ([([(0, ab_rf [164]), (1, ab_i 0 1), (2, ab_i 1 4)], [], [])], 32, [(32, 4, 1, (0, 2))]),
  some ([([(0, ab_rf [164]), (1, ab_i 0 1), (2, ab_i 4 4)], [], [])], 0, [])]
set_option maxRecDepth 1000000 in
theorem ab_q356 : ab_chk ab_tab [(188, 0), (189, 0), (190, 0), (191, 0), (192, 0), (193, 0), (194, 0)] ab_s356 [] [] ab_c356 [] am_m147 = true := by decide +kernel
-- AirBedModel.begin
def ab_c355 : List (Option ab_K) := [some ([([(0, ab_rf [164])], [], [])], 41, []), none, none, none, none, none, none, none, none, none, none, none, none, none, none, none, none, none, none, none, none, none, none, none, none, none, none, none, some ([([(0, ab_rf [164])], [], [((165, 14), ab_i 1 6), ((165, 57), ab_i 0 0), ((165, 58), ab_i (-1) (-1)), ((165, 60), ab_i 0 0), ((165, 61), ab_i 0 0), ((165, 62), ab_i (-1) (-1))])], 13, []), none,
  none, none, none, none, none, none, none, none, none, none, none, none, none, none, none, none, none, none, none, none, none, none, none, none, none, none, none, none, none, none,
  none, none, none, none, none, none, none, none, none, none, none, none, none, none, some ([([(0, ab_rf [164])], [], [((165, 57), ab_i 0 0), ((165, 60), ab_i 0 0), ((165, 61), ab_i 0 0), ((165, 62), ab_i (-1) (-1))])], 12, []), none, none, none, none, none, none, none, none, none, none, none, none]
set_option maxRecDepth 1000000 in
theorem ab_q355 : ab_chk ab_tab [(164, 58), (164, 59), (164, 60), (164, 61), (164, 62), (164, 63), (164, 74), (164, 75), (164, 78), (164, 80)] ab_s355 [ab_s356] [] ab_c355 [28] am_m146 = true := by decide +kernel
