/-! ===== THE TABLE HOLDS AT THE BEGINNING: cells 24 to 59 ===== -/
set_option maxRecDepth 1000000 in
theorem ab_i2 : ((List.range 60).drop 24).all (fun o => ab_cellB am_h0 o) = true := by decide +kernel
