/-! ===== WHAT THE LAW ASKS OF THE RELATION ===== -/
theorem ax_X : ax_All R6 := R6_All
theorem ax_Y : ay_strike R6 := R6_y_strike
theorem ax_0 : R6 am_h0 := R6_0
