theorem dd_Wr_init_0 : decode bb_Wr_init 0 = .ok (.aload_n 0, 1) := by decide +kernel
theorem dd_Wr_init_1 : decode bb_Wr_init 1 = .ok (.invokespecial 3, 3) := by decide +kernel
theorem dd_Wr_init_4 : decode bb_Wr_init 4 = .ok (.aload_n 0, 1) := by decide +kernel
theorem dd_Wr_init_5 : decode bb_Wr_init 5 = .ok (.new 9, 3) := by decide +kernel
theorem dd_Wr_init_8 : decode bb_Wr_init 8 = .ok (.dup, 1) := by decide +kernel
theorem dd_Wr_init_9 : decode bb_Wr_init 9 = .ok (.invokespecial 11, 3) := by decide +kernel
theorem dd_Wr_init_12 : decode bb_Wr_init 12 = .ok (.putfield 12, 3) := by decide +kernel
theorem dd_Wr_init_15 : decode bb_Wr_init 15 = .ok (.return_, 1) := by decide +kernel
