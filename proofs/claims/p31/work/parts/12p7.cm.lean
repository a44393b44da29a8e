set_option maxRecDepth 1000000 in
theorem am_chkMs7 : (List.range 32).all (fun a => am_chkM (a + 224)) = true := by decide +kernel
