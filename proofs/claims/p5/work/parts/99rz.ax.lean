/-! ===== WHAT THE LAW ASKS OF THE RELATION ===== -/
theorem ax_X : ax_All R5 := R5_All
theorem ax_Y : ay_named R5 := R5_y
theorem ax_0 : R5 am_h0 := R5_0
