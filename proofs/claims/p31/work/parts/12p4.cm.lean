set_option maxRecDepth 1000000 in
theorem am_chkMs4 : (List.range 32).all (fun a => am_chkM (a + 128)) = true := by decide +kernel
