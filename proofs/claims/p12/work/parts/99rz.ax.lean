/-! ===== WHAT THE LAW ASKS OF THE RELATION ===== -/
theorem ax_X : ax_All R7 := R7_All
theorem ax_Y : ay_leak R7 := R7_y
theorem ax_0 : R7 am_h0 := R7_0
