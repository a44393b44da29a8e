/-! ===== THE TABLE HOLDS AT THE BEGINNING: cells 60 to 163 ===== -/
set_option maxRecDepth 1000000 in
theorem ab_i3 : ((List.range 164).drop 60).all (fun o => ab_cellB am_h0 o) = true := by decide +kernel
