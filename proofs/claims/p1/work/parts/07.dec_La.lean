theorem dd_La_cell_0 : decode bb_La_cell 0 = .ok (.iload_n 1, 1) := by decide +kernel
theorem dd_La_cell_1 : decode bb_La_cell 1 = .ok (.aload_n 0, 1) := by decide +kernel
theorem dd_La_cell_2 : decode bb_La_cell 2 = .ok (.arraylength, 1) := by decide +kernel
theorem dd_La_cell_3 : decode bb_La_cell 3 = .ok (.if_icmp .ge (9), 3) := by decide +kernel
theorem dd_La_cell_6 : decode bb_La_cell 6 = .ok (.aload_n 0, 1) := by decide +kernel
theorem dd_La_cell_7 : decode bb_La_cell 7 = .ok (.iload_n 1, 1) := by decide +kernel
theorem dd_La_cell_8 : decode bb_La_cell 8 = .ok (.iaload, 1) := by decide +kernel
theorem dd_La_cell_9 : decode bb_La_cell 9 = .ok (.goto (4), 3) := by decide +kernel
theorem dd_La_cell_12 : decode bb_La_cell 12 = .ok (.iconst 0, 1) := by decide +kernel
theorem dd_La_cell_13 : decode bb_La_cell 13 = .ok (.ireturn, 1) := by decide +kernel

