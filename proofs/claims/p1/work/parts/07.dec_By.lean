theorem dd_By_init_0 : decode bb_By_init 0 = .ok (.aload_n 0, 1) := by decide +kernel
theorem dd_By_init_1 : decode bb_By_init 1 = .ok (.invokespecial 3, 3) := by decide +kernel
theorem dd_By_init_4 : decode bb_By_init 4 = .ok (.aload_n 0, 1) := by decide +kernel
theorem dd_By_init_5 : decode bb_By_init 5 = .ok (.bipush (100), 2) := by decide +kernel
theorem dd_By_init_7 : decode bb_By_init 7 = .ok (.newarray .int, 2) := by decide +kernel
theorem dd_By_init_9 : decode bb_By_init 9 = .ok (.putfield 9, 3) := by decide +kernel
theorem dd_By_init_12 : decode bb_By_init 12 = .ok (.return_, 1) := by decide +kernel
theorem dd_By_length_0 : decode bb_By_length 0 = .ok (.aload_n 0, 1) := by decide +kernel
theorem dd_By_length_1 : decode bb_By_length 1 = .ok (.getfield 15, 3) := by decide +kernel
theorem dd_By_length_4 : decode bb_By_length 4 = .ok (.ireturn, 1) := by decide +kernel
theorem dd_By_append_0 : decode bb_By_append 0 = .ok (.aload_n 0, 1) := by decide +kernel
theorem dd_By_append_1 : decode bb_By_append 1 = .ok (.getfield 15, 3) := by decide +kernel
theorem dd_By_append_4 : decode bb_By_append 4 = .ok (.aload_n 0, 1) := by decide +kernel
theorem dd_By_append_5 : decode bb_By_append 5 = .ok (.getfield 9, 3) := by decide +kernel
theorem dd_By_append_8 : decode bb_By_append 8 = .ok (.arraylength, 1) := by decide +kernel
theorem dd_By_append_9 : decode bb_By_append 9 = .ok (.if_icmp .ge (23), 3) := by decide +kernel
theorem dd_By_append_12 : decode bb_By_append 12 = .ok (.aload_n 0, 1) := by decide +kernel
theorem dd_By_append_13 : decode bb_By_append 13 = .ok (.getfield 9, 3) := by decide +kernel
theorem dd_By_append_16 : decode bb_By_append 16 = .ok (.aload_n 0, 1) := by decide +kernel
theorem dd_By_append_17 : decode bb_By_append 17 = .ok (.getfield 15, 3) := by decide +kernel
theorem dd_By_append_20 : decode bb_By_append 20 = .ok (.iload_n 1, 1) := by decide +kernel
theorem dd_By_append_21 : decode bb_By_append 21 = .ok (.iastore, 1) := by decide +kernel
theorem dd_By_append_22 : decode bb_By_append 22 = .ok (.aload_n 0, 1) := by decide +kernel
theorem dd_By_append_23 : decode bb_By_append 23 = .ok (.dup, 1) := by decide +kernel
theorem dd_By_append_24 : decode bb_By_append 24 = .ok (.getfield 15, 3) := by decide +kernel
theorem dd_By_append_27 : decode bb_By_append 27 = .ok (.iconst 1, 1) := by decide +kernel
theorem dd_By_append_28 : decode bb_By_append 28 = .ok (.iadd, 1) := by decide +kernel
theorem dd_By_append_29 : decode bb_By_append 29 = .ok (.putfield 15, 3) := by decide +kernel
theorem dd_By_append_32 : decode bb_By_append 32 = .ok (.return_, 1) := by decide +kernel
theorem dd_By_at_0 : decode bb_By_at 0 = .ok (.iload_n 1, 1) := by decide +kernel
theorem dd_By_at_1 : decode bb_By_at 1 = .ok (.ifCond .lt (20), 3) := by decide +kernel
theorem dd_By_at_4 : decode bb_By_at 4 = .ok (.iload_n 1, 1) := by decide +kernel
theorem dd_By_at_5 : decode bb_By_at 5 = .ok (.aload_n 0, 1) := by decide +kernel
theorem dd_By_at_6 : decode bb_By_at 6 = .ok (.getfield 15, 3) := by decide +kernel
theorem dd_By_at_9 : decode bb_By_at 9 = .ok (.if_icmp .ge (12), 3) := by decide +kernel
theorem dd_By_at_12 : decode bb_By_at 12 = .ok (.aload_n 0, 1) := by decide +kernel
theorem dd_By_at_13 : decode bb_By_at 13 = .ok (.getfield 9, 3) := by decide +kernel
theorem dd_By_at_16 : decode bb_By_at 16 = .ok (.iload_n 1, 1) := by decide +kernel
theorem dd_By_at_17 : decode bb_By_at 17 = .ok (.iaload, 1) := by decide +kernel
theorem dd_By_at_18 : decode bb_By_at 18 = .ok (.goto (4), 3) := by decide +kernel
theorem dd_By_at_21 : decode bb_By_at 21 = .ok (.iconst (-1), 1) := by decide +kernel
theorem dd_By_at_22 : decode bb_By_at 22 = .ok (.ireturn, 1) := by decide +kernel
theorem dd_By_clear_0 : decode bb_By_clear 0 = .ok (.aload_n 0, 1) := by decide +kernel
theorem dd_By_clear_1 : decode bb_By_clear 1 = .ok (.iconst 0, 1) := by decide +kernel
theorem dd_By_clear_2 : decode bb_By_clear 2 = .ok (.putfield 15, 3) := by decide +kernel
theorem dd_By_clear_5 : decode bb_By_clear 5 = .ok (.return_, 1) := by decide +kernel
theorem dd_By_replace_0 : decode bb_By_replace 0 = .ok (.iload_n 1, 1) := by decide +kernel
theorem dd_By_replace_1 : decode bb_By_replace 1 = .ok (.ifCond .lt (18), 3) := by decide +kernel
theorem dd_By_replace_4 : decode bb_By_replace 4 = .ok (.iload_n 1, 1) := by decide +kernel
theorem dd_By_replace_5 : decode bb_By_replace 5 = .ok (.aload_n 0, 1) := by decide +kernel
theorem dd_By_replace_6 : decode bb_By_replace 6 = .ok (.getfield 15, 3) := by decide +kernel
theorem dd_By_replace_9 : decode bb_By_replace 9 = .ok (.if_icmp .ge (10), 3) := by decide +kernel
theorem dd_By_replace_12 : decode bb_By_replace 12 = .ok (.aload_n 0, 1) := by decide +kernel
theorem dd_By_replace_13 : decode bb_By_replace 13 = .ok (.getfield 9, 3) := by decide +kernel
theorem dd_By_replace_16 : decode bb_By_replace 16 = .ok (.iload_n 1, 1) := by decide +kernel
theorem dd_By_replace_17 : decode bb_By_replace 17 = .ok (.iload_n 2, 1) := by decide +kernel
theorem dd_By_replace_18 : decode bb_By_replace 18 = .ok (.iastore, 1) := by decide +kernel
theorem dd_By_replace_19 : decode bb_By_replace 19 = .ok (.return_, 1) := by decide +kernel
