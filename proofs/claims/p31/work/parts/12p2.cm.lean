set_option maxRecDepth 1000000 in
theorem am_chkMs2 : (List.range 32).all (fun a => am_chkM (a + 64)) = true := by decide +kernel
