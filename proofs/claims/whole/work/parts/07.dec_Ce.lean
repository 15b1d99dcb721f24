theorem dd_Ce_init_0 : decode bb_Ce_init 0 = .ok (.aload_n 0, 1) := by decide +kernel
theorem dd_Ce_init_1 : decode bb_Ce_init 1 = .ok (.invokespecial 1, 3) := by decide +kernel
theorem dd_Ce_init_4 : decode bb_Ce_init 4 = .ok (.aload_n 0, 1) := by decide +kernel
theorem dd_Ce_init_5 : decode bb_Ce_init 5 = .ok (.aload_n 1, 1) := by decide +kernel
theorem dd_Ce_init_6 : decode bb_Ce_init 6 = .ok (.putfield 7, 3) := by decide +kernel
theorem dd_Ce_init_9 : decode bb_Ce_init 9 = .ok (.aload_n 0, 1) := by decide +kernel
theorem dd_Ce_init_10 : decode bb_Ce_init 10 = .ok (.iload_n 2, 1) := by decide +kernel
theorem dd_Ce_init_11 : decode bb_Ce_init 11 = .ok (.putfield 13, 3) := by decide +kernel
theorem dd_Ce_init_14 : decode bb_Ce_init 14 = .ok (.aload_n 0, 1) := by decide +kernel
theorem dd_Ce_init_15 : decode bb_Ce_init 15 = .ok (.iload_n 3, 1) := by decide +kernel
theorem dd_Ce_init_16 : decode bb_Ce_init 16 = .ok (.putfield 17, 3) := by decide +kernel
theorem dd_Ce_init_19 : decode bb_Ce_init 19 = .ok (.aload_n 0, 1) := by decide +kernel
theorem dd_Ce_init_20 : decode bb_Ce_init 20 = .ok (.iload 4, 2) := by decide +kernel
theorem dd_Ce_init_22 : decode bb_Ce_init 22 = .ok (.putfield 20, 3) := by decide +kernel
theorem dd_Ce_init_25 : decode bb_Ce_init 25 = .ok (.aload_n 0, 1) := by decide +kernel
theorem dd_Ce_init_26 : decode bb_Ce_init 26 = .ok (.iload 5, 2) := by decide +kernel
theorem dd_Ce_init_28 : decode bb_Ce_init 28 = .ok (.putfield 23, 3) := by decide +kernel
theorem dd_Ce_init_31 : decode bb_Ce_init 31 = .ok (.return_, 1) := by decide +kernel
