theorem dd_En_init_0 : decode bb_En_init 0 = .ok (.aload_n 0, 1) := by decide +kernel
theorem dd_En_init_1 : decode bb_En_init 1 = .ok (.invokespecial 1, 3) := by decide +kernel
theorem dd_En_init_4 : decode bb_En_init 4 = .ok (.aload_n 0, 1) := by decide +kernel
theorem dd_En_init_5 : decode bb_En_init 5 = .ok (.iload_n 1, 1) := by decide +kernel
theorem dd_En_init_6 : decode bb_En_init 6 = .ok (.putfield 7, 3) := by decide +kernel
theorem dd_En_init_9 : decode bb_En_init 9 = .ok (.aload_n 0, 1) := by decide +kernel
theorem dd_En_init_10 : decode bb_En_init 10 = .ok (.iload_n 2, 1) := by decide +kernel
theorem dd_En_init_11 : decode bb_En_init 11 = .ok (.putfield 13, 3) := by decide +kernel
theorem dd_En_init_14 : decode bb_En_init 14 = .ok (.aload_n 0, 1) := by decide +kernel
theorem dd_En_init_15 : decode bb_En_init 15 = .ok (.iload_n 3, 1) := by decide +kernel
theorem dd_En_init_16 : decode bb_En_init 16 = .ok (.putfield 16, 3) := by decide +kernel
theorem dd_En_init_19 : decode bb_En_init 19 = .ok (.aload_n 0, 1) := by decide +kernel
theorem dd_En_init_20 : decode bb_En_init 20 = .ok (.iload 4, 2) := by decide +kernel
theorem dd_En_init_22 : decode bb_En_init 22 = .ok (.putfield 19, 3) := by decide +kernel
theorem dd_En_init_25 : decode bb_En_init 25 = .ok (.aload_n 0, 1) := by decide +kernel
theorem dd_En_init_26 : decode bb_En_init 26 = .ok (.iload 5, 2) := by decide +kernel
theorem dd_En_init_28 : decode bb_En_init 28 = .ok (.putfield 22, 3) := by decide +kernel
theorem dd_En_init_31 : decode bb_En_init 31 = .ok (.aload_n 0, 1) := by decide +kernel
theorem dd_En_init_32 : decode bb_En_init 32 = .ok (.iload 6, 2) := by decide +kernel
theorem dd_En_init_34 : decode bb_En_init 34 = .ok (.putfield 25, 3) := by decide +kernel
theorem dd_En_init_37 : decode bb_En_init 37 = .ok (.return_, 1) := by decide +kernel
theorem dd_En_isSelectedBy_0 : decode bb_En_isSelectedBy 0 = .ok (.aload_n 0, 1) := by decide +kernel
theorem dd_En_isSelectedBy_1 : decode bb_En_isSelectedBy 1 = .ok (.getfield 19, 3) := by decide +kernel
theorem dd_En_isSelectedBy_4 : decode bb_En_isSelectedBy 4 = .ok (.iload_n 1, 1) := by decide +kernel
theorem dd_En_isSelectedBy_5 : decode bb_En_isSelectedBy 5 = .ok (.iconst (-1), 1) := by decide +kernel
theorem dd_En_isSelectedBy_6 : decode bb_En_isSelectedBy 6 = .ok (.ixor, 1) := by decide +kernel
theorem dd_En_isSelectedBy_7 : decode bb_En_isSelectedBy 7 = .ok (.iand, 1) := by decide +kernel
theorem dd_En_isSelectedBy_8 : decode bb_En_isSelectedBy 8 = .ok (.ifCond .ne (7), 3) := by decide +kernel
theorem dd_En_isSelectedBy_11 : decode bb_En_isSelectedBy 11 = .ok (.iconst 1, 1) := by decide +kernel
theorem dd_En_isSelectedBy_12 : decode bb_En_isSelectedBy 12 = .ok (.goto (4), 3) := by decide +kernel
theorem dd_En_isSelectedBy_15 : decode bb_En_isSelectedBy 15 = .ok (.iconst 0, 1) := by decide +kernel
theorem dd_En_isSelectedBy_16 : decode bb_En_isSelectedBy 16 = .ok (.ireturn, 1) := by decide +kernel
theorem dd_En_isEntitled_0 : decode bb_En_isEntitled 0 = .ok (.iload_n 1, 1) := by decide +kernel
theorem dd_En_isEntitled_1 : decode bb_En_isEntitled 1 = .ok (.aload_n 0, 1) := by decide +kernel
theorem dd_En_isEntitled_2 : decode bb_En_isEntitled 2 = .ok (.getfield 16, 3) := by decide +kernel
theorem dd_En_isEntitled_5 : decode bb_En_isEntitled 5 = .ok (.ishr, 1) := by decide +kernel
theorem dd_En_isEntitled_6 : decode bb_En_isEntitled 6 = .ok (.iconst 1, 1) := by decide +kernel
theorem dd_En_isEntitled_7 : decode bb_En_isEntitled 7 = .ok (.iand, 1) := by decide +kernel
theorem dd_En_isEntitled_8 : decode bb_En_isEntitled 8 = .ok (.iconst 1, 1) := by decide +kernel
theorem dd_En_isEntitled_9 : decode bb_En_isEntitled 9 = .ok (.if_icmp .ne (7), 3) := by decide +kernel
theorem dd_En_isEntitled_12 : decode bb_En_isEntitled 12 = .ok (.iconst 1, 1) := by decide +kernel
theorem dd_En_isEntitled_13 : decode bb_En_isEntitled 13 = .ok (.goto (4), 3) := by decide +kernel
theorem dd_En_isEntitled_16 : decode bb_En_isEntitled 16 = .ok (.iconst 0, 1) := by decide +kernel
theorem dd_En_isEntitled_17 : decode bb_En_isEntitled 17 = .ok (.ireturn, 1) := by decide +kernel
