theorem dd_Es_init_0 : decode bb_Es_init 0 = .ok (.aload_n 0, 1) := by decide +kernel
theorem dd_Es_init_1 : decode bb_Es_init 1 = .ok (.invokespecial 3, 3) := by decide +kernel
theorem dd_Es_init_4 : decode bb_Es_init 4 = .ok (.aload_n 0, 1) := by decide +kernel
theorem dd_Es_init_5 : decode bb_Es_init 5 = .ok (.new 9, 3) := by decide +kernel
theorem dd_Es_init_8 : decode bb_Es_init 8 = .ok (.dup, 1) := by decide +kernel
theorem dd_Es_init_9 : decode bb_Es_init 9 = .ok (.invokespecial 11, 3) := by decide +kernel
theorem dd_Es_init_12 : decode bb_Es_init 12 = .ok (.putfield 12, 3) := by decide +kernel
theorem dd_Es_init_15 : decode bb_Es_init 15 = .ok (.return_, 1) := by decide +kernel
theorem dd_Es_drop_0 : decode bb_Es_drop 0 = .ok (.iconst 0, 1) := by decide +kernel
theorem dd_Es_drop_1 : decode bb_Es_drop 1 = .ok (.istore_n 2, 1) := by decide +kernel
theorem dd_Es_drop_2 : decode bb_Es_drop 2 = .ok (.iload_n 2, 1) := by decide +kernel
theorem dd_Es_drop_3 : decode bb_Es_drop 3 = .ok (.aload_n 0, 1) := by decide +kernel
theorem dd_Es_drop_4 : decode bb_Es_drop 4 = .ok (.getfield 12, 3) := by decide +kernel
theorem dd_Es_drop_7 : decode bb_Es_drop 7 = .ok (.invokevirtual 18, 3) := by decide +kernel
theorem dd_Es_drop_10 : decode bb_Es_drop 10 = .ok (.if_icmp .ge (38), 3) := by decide +kernel
theorem dd_Es_drop_48 : decode bb_Es_drop 48 = .ok (.iconst 0, 1) := by decide +kernel
theorem dd_Es_drop_49 : decode bb_Es_drop 49 = .ok (.ireturn, 1) := by decide +kernel
