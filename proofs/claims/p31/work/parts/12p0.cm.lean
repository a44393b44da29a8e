set_option maxRecDepth 1000000 in
theorem am_chkMs0 : (List.range 32).all (fun a => am_chkM (a + 0)) = true := by decide +kernel
