/-! ===== THE TABLE HOLDS AT THE BEGINNING: cells 3 to 23 ===== -/
set_option maxRecDepth 1000000 in
theorem ab_i1 : ((List.range 24).drop 3).all (fun o => ab_cellB am_h0 o) = true := by decide +kernel
