/-! ===== THE TABLE HOLDS AT THE BEGINNING: cells 164 to 199 ===== -/
set_option maxRecDepth 1000000 in
theorem ab_i4 : ((List.range 200).drop 164).all (fun o => ab_cellB am_h0 o) = true := by decide +kernel
