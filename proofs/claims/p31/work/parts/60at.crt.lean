/-! ===== CHECKS (wip/s/mkcert.py) ===== -/
-- AirBed.keep
def ab_c59 : List (Option ab_K) := [some ([([(0, ab_rf [0])], [], [])], 11, []), none, none, none, none, none, none, none, none, none, none, none]
set_option maxRecDepth 1000000 in
theorem ab_q59 : ab_chk ab_tab [(0, 9)] ab_s59 [ab_s280] [] ab_c59 [] am_m139 = true := by decide +kernel
-- AirBedModel.keep
def ab_c60 : List (Option ab_K) := [some ([([(0, ab_rf [164])], [], [])], 15, []), none, none, none, none, none, none, none, none, none, none, none, none, none, none, none]
set_option maxRecDepth 1000000 in
theorem ab_q60 : ab_chk ab_tab [(164, 3), (164, 80)] ab_s60 [ab_s281] [] ab_c60 [] am_m251 = true := by decide +kernel
-- AirBed$State.copy
def ab_c282 : List (Option ab_K) := [some ([([(0, ab_rf [48]), (1, ab_rf [56])], [], [((1, 8), ab_i 1 1)])], 166, []), none, none, none, none, none, none, none, none, none, none, none, none, none, none, none, none, none, none, none, none, none, some ([([(0, ab_rf [48]), (1, ab_rf [56]), (2, ab_i 0 4)], [], [((1, 8), ab_i 1 1)])], 28, [(29, 4, 1, (0, 2))]), none, none, none, none, none, none, none,
  none, none, none, none, none, none, none, none, none, none, none, none, none, none, none, none, none, none, none, none, some ([([(0, ab_rf [48]), (1, ab_rf [56]), (2, ab_i 1 4)], [], [((1, 8), ab_i 1 1)])], 29, [(29, 4, 1, (0, 2))]), some ([([(0, ab_rf [48]), (1, ab_rf [56]), (2, ab_i 4 4)], [], [((1, 8), ab_i 1 1)])], 0, [])]
set_option maxRecDepth 1000000 in
theorem ab_q282 : ab_chk ab_tab [(48, 1), (48, 2), (48, 3), (48, 4), (48, 5), (49, 0), (50, 0), (51, 0)] ab_s282 [] [] ab_c282 [] am_m64 = true := by decide +kernel
-- AirBed.back
def ab_c61 : List (Option ab_K) := [some ([([(0, ab_rf [0])], [], [])], 14, []), none, none, none, none, some ([([(0, ab_rf [0])], [], [((1, 8), ab_i 1 1)])], 11, []), none, none, none, none, none, none, none, none, none, none, none]
set_option maxRecDepth 1000000 in
theorem ab_q61 : ab_chk ab_tab [] ab_s61 [ab_s131, ab_s282] [] ab_c61 [] am_m140 = true := by decide +kernel
-- AirBedModel.back
def ab_c62 : List (Option ab_K) := [some ([([(0, ab_rf [164])], [], [])], 18, []), none, none, none, none, none, none, none, some ([([(0, ab_rf [164])], [], [((165, 2), ab_i 0 0), ((165, 79), ab_i 1 1)])], 12, []), none, none, none, none, none, none, none, none, none, none, none, none]
set_option maxRecDepth 1000000 in
theorem ab_q62 : ab_chk ab_tab [(164, 3), (164, 78)] ab_s62 [ab_s283] [] ab_c62 [] am_m252 = true := by decide +kernel
-- AirBed.count
def ab_c63 : List (Option ab_K) := [some ([([(0, ab_rf [0]), (1, ab_top)], [], [])], 10, []), none, none, none, none, none, some ([([(0, ab_rf [0]), (1, ab_i 1 1)], [], [])], 3, []), none, none, none, some ([([(0, ab_rf [0]), (1, ab_i 2 2)], [], [])], 3, []), none, none, none, some ([([(0, ab_rf [0]), (1, ab_i 3 3)], [], [])], 3, []), none, none, none, some ([([(0, ab_rf [0]), (1, ab_i 4 4)], [], [])], 3, []), none, none, none, some ([([(0, ab_rf [0]), (1, ab_i 5 5)], [], [])], 3, []), none, none, none, some ([([(0, ab_rf [0]), (1, ab_i 6 6)], [], [])], 4, []), none, none, none,
  none, some ([([(0, ab_rf [0]), (1, ab_i 7 7)], [], [])], 3, []), none, none, none, some ([([(0, ab_rf [0]), (1, ab_i 8 8)], [], [])], 3, []), none, none, none, some ([([(0, ab_rf [0]), (1, ab_i 9 9)], [], [])], 8, []), none, none, none, none, none, none, none, some ([([(0, ab_rf [0]), (1, ab_i 9 9)], [], [((49, 2), ab_i (-2147483648) (-1))])], 1, []), some ([([(0, ab_rf [0]), (1, ab_i 9 9)], [(ab_i 0 2147483647, 1, (49, 2), 0)], [((49, 2), ab_i 0 2147483647)]), ([(0, ab_rf [0]), (1, ab_i 9 9)], [ab_n (ab_i (-1) (-1))], [((49, 2), ab_i (-2147483648) (-1))])], 0, []), some ([([(0, ab_rf [0]), (1, ab_i 10 10)], [], [])], 3, []), none, none, none, some ([([(0, ab_rf [0]), (1, ab_i 11 11)], [], [])], 3, []), none, none, none, some ([([(0, ab_rf [0]), (1, ab_i 12 12)], [], [])], 3, []), none, none,
  none, some ([([(0, ab_rf [0]), (1, ab_i 13 13)], [], [])], 3, []), none, none, none, some ([([(0, ab_rf [0]), (1, ab_top)], [], [])], 1, []), none]
set_option maxRecDepth 1000000 in
theorem ab_q63 : ab_chk ab_tab [] ab_s63 [ab_s270] [(1, 1)] ab_c63 [] am_m141 = true := by decide +kernel
-- AirBedModel.count
def ab_c64 : List (Option ab_K) := [some ([([(0, ab_rf [164]), (1, ab_top)], [], [])], 14, []), none, none, none, none, none, none, none, none, none, some ([([(0, ab_rf [164]), (1, ab_i 1 1)], [], [((165, 2), ab_i 0 0)])], 4, []), none, none, none, none, some ([([(0, ab_rf [164]), (1, ab_i 2 2)], [], [((165, 2), ab_i 0 0)])], 2, []), none, none, some ([([(0, ab_rf [164]), (1, ab_i 3 3)], [], [((165, 2), ab_i 0 0)])], 2, []), none, none, some ([([(0, ab_rf [164]), (1, ab_i 4 4)], [], [((165, 2), ab_i 0 0)])], 2, []), none, none, some ([([(0, ab_rf [164]), (1, ab_i 5 5)], [], [((165, 2), ab_i 0 0)])], 2, []), none, none, some ([([(0, ab_rf [164]), (1, ab_i 6 6)], [], [((165, 2), ab_i 0 0)])], 2, []), none, none,
  some ([([(0, ab_rf [164]), (1, ab_i 7 7)], [], [((165, 2), ab_i 0 0)])], 4, []), none, none, none, none, some ([([(0, ab_rf [164]), (1, ab_i 8 8)], [], [((165, 2), ab_i 0 0)])], 4, []), none, none, none, none, some ([([(0, ab_rf [164]), (1, ab_i 9 9)], [], [((165, 2), ab_i 0 0)])], 9, []), none, none, none, none, none, none, some ([([(0, ab_rf [164]), (1, ab_i 9 9)], [], [((165, 2), ab_i 0 0), ((191, 0), ab_i 0 2147483647)])], 4, []), none, none, none, some ([([(0, ab_rf [164]), (1, ab_i 9 9)], [ab_n (ab_i (-1) (-1))], [((165, 2), ab_i 0 0), ((191, 0), ab_i (-2147483648) (-1))]), ([(0, ab_rf [164]), (1, ab_i 9 9)], [(ab_i 0 2147483647, 1, (191, 0), 0)], [((165, 2), ab_i 0 0), ((191, 0), ab_i 0 2147483647)])], 0, []), some ([([(0, ab_rf [164]), (1, ab_i 10 10)], [], [((165, 2), ab_i 0 0)])], 2, []), none, none, some ([([(0, ab_rf [164]), (1, ab_i 11 11)], [], [((165, 2), ab_i 0 0)])], 2, []), none, none, some ([([(0, ab_rf [164]), (1, ab_i 12 12)], [], [((165, 2), ab_i 0 0)])], 2, []), none,
  none, some ([([(0, ab_rf [164]), (1, ab_i 13 13)], [], [((165, 2), ab_i 0 0)])], 2, []), none, none, some ([([(0, ab_rf [164]), (1, ab_top)], [], [((165, 2), ab_i 0 0)])], 1, []), none]
set_option maxRecDepth 1000000 in
theorem ab_q64 : ab_chk ab_tab [(164, 3)] ab_s64 [ab_s271] [(1, 1)] ab_c64 [] am_m253 = true := by decide +kernel
