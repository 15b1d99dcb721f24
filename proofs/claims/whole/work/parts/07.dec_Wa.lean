theorem dd_Wa_init_0 : decode bb_Wa_init 0 = .ok (.aload_n 0, 1) := by decide +kernel
theorem dd_Wa_init_1 : decode bb_Wa_init 1 = .ok (.invokespecial 1, 3) := by decide +kernel
theorem dd_Wa_init_4 : decode bb_Wa_init 4 = .ok (.aload_n 0, 1) := by decide +kernel
theorem dd_Wa_init_5 : decode bb_Wa_init 5 = .ok (.new 7, 3) := by decide +kernel
theorem dd_Wa_init_8 : decode bb_Wa_init 8 = .ok (.dup, 1) := by decide +kernel
theorem dd_Wa_init_9 : decode bb_Wa_init 9 = .ok (.invokespecial 9, 3) := by decide +kernel
theorem dd_Wa_init_12 : decode bb_Wa_init 12 = .ok (.putfield 10, 3) := by decide +kernel
theorem dd_Wa_init_15 : decode bb_Wa_init 15 = .ok (.aload_n 0, 1) := by decide +kernel
theorem dd_Wa_init_16 : decode bb_Wa_init 16 = .ok (.aload_n 1, 1) := by decide +kernel
theorem dd_Wa_init_17 : decode bb_Wa_init 17 = .ok (.putfield 16, 3) := by decide +kernel
theorem dd_Wa_init_20 : decode bb_Wa_init 20 = .ok (.aload_n 0, 1) := by decide +kernel
theorem dd_Wa_init_21 : decode bb_Wa_init 21 = .ok (.iload_n 2, 1) := by decide +kernel
theorem dd_Wa_init_22 : decode bb_Wa_init 22 = .ok (.putfield 20, 3) := by decide +kernel
theorem dd_Wa_init_25 : decode bb_Wa_init 25 = .ok (.return_, 1) := by decide +kernel
theorem dd_Wa_hasGot_0 : decode bb_Wa_hasGot 0 = .ok (.aload_n 0, 1) := by decide +kernel
theorem dd_Wa_hasGot_1 : decode bb_Wa_hasGot 1 = .ok (.getfield 24, 3) := by decide +kernel
theorem dd_Wa_hasGot_4 : decode bb_Wa_hasGot 4 = .ok (.ifCond .eq (18), 3) := by decide +kernel
theorem dd_Wa_hasGot_7 : decode bb_Wa_hasGot 7 = .ok (.aload_n 0, 1) := by decide +kernel
theorem dd_Wa_hasGot_8 : decode bb_Wa_hasGot 8 = .ok (.getfield 10, 3) := by decide +kernel
theorem dd_Wa_hasGot_11 : decode bb_Wa_hasGot 11 = .ok (.aload_n 1, 1) := by decide +kernel
theorem dd_Wa_hasGot_12 : decode bb_Wa_hasGot 12 = .ok (.invokevirtual 28, 3) := by decide +kernel
theorem dd_Wa_hasGot_15 : decode bb_Wa_hasGot 15 = .ok (.ifCond .eq (7), 3) := by decide +kernel
theorem dd_Wa_hasGot_18 : decode bb_Wa_hasGot 18 = .ok (.iconst 1, 1) := by decide +kernel
theorem dd_Wa_hasGot_19 : decode bb_Wa_hasGot 19 = .ok (.goto (4), 3) := by decide +kernel
theorem dd_Wa_hasGot_22 : decode bb_Wa_hasGot 22 = .ok (.iconst 0, 1) := by decide +kernel
theorem dd_Wa_hasGot_23 : decode bb_Wa_hasGot 23 = .ok (.ireturn, 1) := by decide +kernel
theorem dd_Wa_take_0 : decode bb_Wa_take 0 = .ok (.aload_n 0, 1) := by decide +kernel
theorem dd_Wa_take_1 : decode bb_Wa_take 1 = .ok (.iconst 1, 1) := by decide +kernel
theorem dd_Wa_take_2 : decode bb_Wa_take 2 = .ok (.putfield 24, 3) := by decide +kernel
theorem dd_Wa_take_5 : decode bb_Wa_take 5 = .ok (.aload_n 0, 1) := by decide +kernel
theorem dd_Wa_take_6 : decode bb_Wa_take 6 = .ok (.getfield 10, 3) := by decide +kernel
theorem dd_Wa_take_9 : decode bb_Wa_take 9 = .ok (.aload_n 1, 1) := by decide +kernel
theorem dd_Wa_take_10 : decode bb_Wa_take 10 = .ok (.invokevirtual 32, 3) := by decide +kernel
theorem dd_Wa_take_13 : decode bb_Wa_take 13 = .ok (.return_, 1) := by decide +kernel
