/-! ===== WHAT THE LAW ASKS OF THE RELATION ===== -/
theorem ax_X : ax_All R8 := R8_All
theorem ax_Y : ay_undo R8 := R8_y_undo
theorem ax_0 : R8 am_h0 := R8_0
