theorem dd_Ky_init_0 : decode bb_Ky_init 0 = .ok (.aload_n 0, 1) := by decide +kernel
theorem dd_Ky_init_1 : decode bb_Ky_init 1 = .ok (.invokespecial 3, 3) := by decide +kernel
theorem dd_Ky_init_4 : decode bb_Ky_init 4 = .ok (.aload_n 0, 1) := by decide +kernel
theorem dd_Ky_init_5 : decode bb_Ky_init 5 = .ok (.iconst 4, 1) := by decide +kernel
theorem dd_Ky_init_6 : decode bb_Ky_init 6 = .ok (.newarray .int, 2) := by decide +kernel
theorem dd_Ky_init_8 : decode bb_Ky_init 8 = .ok (.putfield 11, 3) := by decide +kernel
theorem dd_Ky_init_11 : decode bb_Ky_init 11 = .ok (.aload_n 0, 1) := by decide +kernel
theorem dd_Ky_init_12 : decode bb_Ky_init 12 = .ok (.iconst 1, 1) := by decide +kernel
theorem dd_Ky_init_13 : decode bb_Ky_init 13 = .ok (.putfield 15, 3) := by decide +kernel
theorem dd_Ky_init_16 : decode bb_Ky_init 16 = .ok (.aload_n 0, 1) := by decide +kernel
theorem dd_Ky_init_17 : decode bb_Ky_init 17 = .ok (.iconst (-1), 1) := by decide +kernel
theorem dd_Ky_init_18 : decode bb_Ky_init 18 = .ok (.putfield 19, 3) := by decide +kernel
theorem dd_Ky_init_21 : decode bb_Ky_init 21 = .ok (.aload_n 0, 1) := by decide +kernel
theorem dd_Ky_init_22 : decode bb_Ky_init 22 = .ok (.iload_n 1, 1) := by decide +kernel
theorem dd_Ky_init_23 : decode bb_Ky_init 23 = .ok (.putfield 22, 3) := by decide +kernel
theorem dd_Ky_init_26 : decode bb_Ky_init 26 = .ok (.return_, 1) := by decide +kernel
theorem dd_Ky_active_0 : decode bb_Ky_active 0 = .ok (.aload_n 0, 1) := by decide +kernel
theorem dd_Ky_active_1 : decode bb_Ky_active 1 = .ok (.getfield 25, 3) := by decide +kernel
theorem dd_Ky_active_4 : decode bb_Ky_active 4 = .ok (.ireturn, 1) := by decide +kernel
theorem dd_Ky_isGood_0 : decode bb_Ky_isGood 0 = .ok (.iload_n 1, 1) := by decide +kernel
theorem dd_Ky_isGood_1 : decode bb_Ky_isGood 1 = .ok (.ifCond .lt (34), 3) := by decide +kernel
theorem dd_Ky_isGood_4 : decode bb_Ky_isGood 4 = .ok (.iload_n 1, 1) := by decide +kernel
theorem dd_Ky_isGood_5 : decode bb_Ky_isGood 5 = .ok (.aload_n 0, 1) := by decide +kernel
theorem dd_Ky_isGood_6 : decode bb_Ky_isGood 6 = .ok (.getfield 15, 3) := by decide +kernel
theorem dd_Ky_isGood_9 : decode bb_Ky_isGood 9 = .ok (.if_icmp .ge (26), 3) := by decide +kernel
theorem dd_Ky_isGood_12 : decode bb_Ky_isGood 12 = .ok (.iload_n 1, 1) := by decide +kernel
theorem dd_Ky_isGood_13 : decode bb_Ky_isGood 13 = .ok (.aload_n 0, 1) := by decide +kernel
theorem dd_Ky_isGood_14 : decode bb_Ky_isGood 14 = .ok (.getfield 15, 3) := by decide +kernel
theorem dd_Ky_isGood_17 : decode bb_Ky_isGood 17 = .ok (.iconst 4, 1) := by decide +kernel
theorem dd_Ky_isGood_18 : decode bb_Ky_isGood 18 = .ok (.isub, 1) := by decide +kernel
theorem dd_Ky_isGood_19 : decode bb_Ky_isGood 19 = .ok (.if_icmp .lt (16), 3) := by decide +kernel
theorem dd_Ky_isGood_22 : decode bb_Ky_isGood 22 = .ok (.iload_n 2, 1) := by decide +kernel
theorem dd_Ky_isGood_23 : decode bb_Ky_isGood 23 = .ok (.aload_n 0, 1) := by decide +kernel
theorem dd_Ky_isGood_24 : decode bb_Ky_isGood 24 = .ok (.iload_n 1, 1) := by decide +kernel
theorem dd_Ky_isGood_25 : decode bb_Ky_isGood 25 = .ok (.invokevirtual 28, 3) := by decide +kernel
theorem dd_Ky_isGood_28 : decode bb_Ky_isGood 28 = .ok (.if_icmp .ge (7), 3) := by decide +kernel
theorem dd_Ky_isGood_31 : decode bb_Ky_isGood 31 = .ok (.iconst 1, 1) := by decide +kernel
theorem dd_Ky_isGood_32 : decode bb_Ky_isGood 32 = .ok (.goto (4), 3) := by decide +kernel
theorem dd_Ky_isGood_35 : decode bb_Ky_isGood 35 = .ok (.iconst 0, 1) := by decide +kernel
theorem dd_Ky_isGood_36 : decode bb_Ky_isGood 36 = .ok (.ireturn, 1) := by decide +kernel
theorem dd_Ky_endOf_0 : decode bb_Ky_endOf 0 = .ok (.aload_n 0, 1) := by decide +kernel
theorem dd_Ky_endOf_1 : decode bb_Ky_endOf 1 = .ok (.getfield 11, 3) := by decide +kernel
theorem dd_Ky_endOf_4 : decode bb_Ky_endOf 4 = .ok (.iload_n 1, 1) := by decide +kernel
theorem dd_Ky_endOf_5 : decode bb_Ky_endOf 5 = .ok (.iconst 3, 1) := by decide +kernel
theorem dd_Ky_endOf_6 : decode bb_Ky_endOf 6 = .ok (.iand, 1) := by decide +kernel
theorem dd_Ky_endOf_7 : decode bb_Ky_endOf 7 = .ok (.iaload, 1) := by decide +kernel
theorem dd_Ky_endOf_8 : decode bb_Ky_endOf 8 = .ok (.aload_n 0, 1) := by decide +kernel
theorem dd_Ky_endOf_9 : decode bb_Ky_endOf 9 = .ok (.getfield 22, 3) := by decide +kernel
theorem dd_Ky_endOf_12 : decode bb_Ky_endOf 12 = .ok (.iadd, 1) := by decide +kernel
theorem dd_Ky_endOf_13 : decode bb_Ky_endOf 13 = .ok (.ireturn, 1) := by decide +kernel
theorem dd_Ky_firstGood_0 : decode bb_Ky_firstGood 0 = .ok (.iconst 0, 1) := by decide +kernel
theorem dd_Ky_firstGood_1 : decode bb_Ky_firstGood 1 = .ok (.aload_n 0, 1) := by decide +kernel
theorem dd_Ky_firstGood_2 : decode bb_Ky_firstGood 2 = .ok (.getfield 15, 3) := by decide +kernel
theorem dd_Ky_firstGood_5 : decode bb_Ky_firstGood 5 = .ok (.iconst 4, 1) := by decide +kernel
theorem dd_Ky_firstGood_6 : decode bb_Ky_firstGood 6 = .ok (.isub, 1) := by decide +kernel
theorem dd_Ky_firstGood_7 : decode bb_Ky_firstGood 7 = .ok (.invokestatic 32, 3) := by decide +kernel
theorem dd_Ky_firstGood_10 : decode bb_Ky_firstGood 10 = .ok (.istore_n 2, 1) := by decide +kernel
theorem dd_Ky_firstGood_11 : decode bb_Ky_firstGood 11 = .ok (.iload_n 2, 1) := by decide +kernel
theorem dd_Ky_firstGood_12 : decode bb_Ky_firstGood 12 = .ok (.aload_n 0, 1) := by decide +kernel
theorem dd_Ky_firstGood_13 : decode bb_Ky_firstGood 13 = .ok (.getfield 15, 3) := by decide +kernel
theorem dd_Ky_firstGood_16 : decode bb_Ky_firstGood 16 = .ok (.if_icmp .ge (20), 3) := by decide +kernel
theorem dd_Ky_firstGood_19 : decode bb_Ky_firstGood 19 = .ok (.aload_n 0, 1) := by decide +kernel
theorem dd_Ky_firstGood_20 : decode bb_Ky_firstGood 20 = .ok (.iload_n 2, 1) := by decide +kernel
theorem dd_Ky_firstGood_21 : decode bb_Ky_firstGood 21 = .ok (.iload_n 1, 1) := by decide +kernel
theorem dd_Ky_firstGood_22 : decode bb_Ky_firstGood 22 = .ok (.invokevirtual 38, 3) := by decide +kernel
theorem dd_Ky_firstGood_25 : decode bb_Ky_firstGood 25 = .ok (.ifCond .eq (5), 3) := by decide +kernel
theorem dd_Ky_firstGood_28 : decode bb_Ky_firstGood 28 = .ok (.iload_n 2, 1) := by decide +kernel
theorem dd_Ky_firstGood_29 : decode bb_Ky_firstGood 29 = .ok (.ireturn, 1) := by decide +kernel
theorem dd_Ky_firstGood_30 : decode bb_Ky_firstGood 30 = .ok (.iinc 2 (1), 3) := by decide +kernel
theorem dd_Ky_firstGood_33 : decode bb_Ky_firstGood 33 = .ok (.goto (-22), 3) := by decide +kernel
theorem dd_Ky_firstGood_36 : decode bb_Ky_firstGood 36 = .ok (.aload_n 0, 1) := by decide +kernel
theorem dd_Ky_firstGood_37 : decode bb_Ky_firstGood 37 = .ok (.getfield 15, 3) := by decide +kernel
theorem dd_Ky_firstGood_40 : decode bb_Ky_firstGood 40 = .ok (.ireturn, 1) := by decide +kernel
theorem dd_Ky_count_0 : decode bb_Ky_count 0 = .ok (.aload_n 0, 1) := by decide +kernel
theorem dd_Ky_count_1 : decode bb_Ky_count 1 = .ok (.getfield 15, 3) := by decide +kernel
theorem dd_Ky_count_4 : decode bb_Ky_count 4 = .ok (.ireturn, 1) := by decide +kernel
theorem dd_Ky_mayMake_0 : decode bb_Ky_mayMake 0 = .ok (.aload_n 0, 1) := by decide +kernel
theorem dd_Ky_mayMake_1 : decode bb_Ky_mayMake 1 = .ok (.aload_n 0, 1) := by decide +kernel
theorem dd_Ky_mayMake_2 : decode bb_Ky_mayMake 2 = .ok (.getfield 19, 3) := by decide +kernel
theorem dd_Ky_mayMake_5 : decode bb_Ky_mayMake 5 = .ok (.iload_n 1, 1) := by decide +kernel
theorem dd_Ky_mayMake_6 : decode bb_Ky_mayMake 6 = .ok (.invokevirtual 38, 3) := by decide +kernel
theorem dd_Ky_mayMake_9 : decode bb_Ky_mayMake 9 = .ok (.ifCond .ne (21), 3) := by decide +kernel
theorem dd_Ky_mayMake_12 : decode bb_Ky_mayMake 12 = .ok (.aload_n 0, 1) := by decide +kernel
theorem dd_Ky_mayMake_13 : decode bb_Ky_mayMake 13 = .ok (.getfield 15, 3) := by decide +kernel
theorem dd_Ky_mayMake_16 : decode bb_Ky_mayMake 16 = .ok (.aload_n 0, 1) := by decide +kernel
theorem dd_Ky_mayMake_17 : decode bb_Ky_mayMake 17 = .ok (.iload_n 1, 1) := by decide +kernel
theorem dd_Ky_mayMake_18 : decode bb_Ky_mayMake 18 = .ok (.invokevirtual 42, 3) := by decide +kernel
theorem dd_Ky_mayMake_21 : decode bb_Ky_mayMake 21 = .ok (.isub, 1) := by decide +kernel
theorem dd_Ky_mayMake_22 : decode bb_Ky_mayMake 22 = .ok (.iconst 4, 1) := by decide +kernel
theorem dd_Ky_mayMake_23 : decode bb_Ky_mayMake 23 = .ok (.if_icmp .ge (7), 3) := by decide +kernel
theorem dd_Ky_mayMake_26 : decode bb_Ky_mayMake 26 = .ok (.iconst 1, 1) := by decide +kernel
theorem dd_Ky_mayMake_27 : decode bb_Ky_mayMake 27 = .ok (.goto (4), 3) := by decide +kernel
theorem dd_Ky_mayMake_30 : decode bb_Ky_mayMake 30 = .ok (.iconst 0, 1) := by decide +kernel
theorem dd_Ky_mayMake_31 : decode bb_Ky_mayMake 31 = .ok (.ireturn, 1) := by decide +kernel
theorem dd_Ky_make_0 : decode bb_Ky_make 0 = .ok (.aload_n 0, 1) := by decide +kernel
theorem dd_Ky_make_1 : decode bb_Ky_make 1 = .ok (.aload_n 0, 1) := by decide +kernel
theorem dd_Ky_make_2 : decode bb_Ky_make 2 = .ok (.getfield 15, 3) := by decide +kernel
theorem dd_Ky_make_5 : decode bb_Ky_make 5 = .ok (.putfield 19, 3) := by decide +kernel
theorem dd_Ky_make_8 : decode bb_Ky_make 8 = .ok (.aload_n 0, 1) := by decide +kernel
theorem dd_Ky_make_9 : decode bb_Ky_make 9 = .ok (.getfield 11, 3) := by decide +kernel
theorem dd_Ky_make_12 : decode bb_Ky_make 12 = .ok (.aload_n 0, 1) := by decide +kernel
theorem dd_Ky_make_13 : decode bb_Ky_make 13 = .ok (.getfield 19, 3) := by decide +kernel
theorem dd_Ky_make_16 : decode bb_Ky_make 16 = .ok (.iconst 3, 1) := by decide +kernel
theorem dd_Ky_make_17 : decode bb_Ky_make 17 = .ok (.iand, 1) := by decide +kernel
theorem dd_Ky_make_18 : decode bb_Ky_make 18 = .ok (.iload_n 1, 1) := by decide +kernel
theorem dd_Ky_make_19 : decode bb_Ky_make 19 = .ok (.iastore, 1) := by decide +kernel
theorem dd_Ky_make_20 : decode bb_Ky_make 20 = .ok (.aload_n 0, 1) := by decide +kernel
theorem dd_Ky_make_21 : decode bb_Ky_make 21 = .ok (.dup, 1) := by decide +kernel
theorem dd_Ky_make_22 : decode bb_Ky_make 22 = .ok (.getfield 15, 3) := by decide +kernel
theorem dd_Ky_make_25 : decode bb_Ky_make 25 = .ok (.iconst 1, 1) := by decide +kernel
theorem dd_Ky_make_26 : decode bb_Ky_make 26 = .ok (.iadd, 1) := by decide +kernel
theorem dd_Ky_make_27 : decode bb_Ky_make 27 = .ok (.putfield 15, 3) := by decide +kernel
theorem dd_Ky_make_30 : decode bb_Ky_make 30 = .ok (.aload_n 0, 1) := by decide +kernel
theorem dd_Ky_make_31 : decode bb_Ky_make 31 = .ok (.getfield 19, 3) := by decide +kernel
theorem dd_Ky_make_34 : decode bb_Ky_make 34 = .ok (.ireturn, 1) := by decide +kernel
theorem dd_Ky_useNext_0 : decode bb_Ky_useNext 0 = .ok (.aload_n 0, 1) := by decide +kernel
theorem dd_Ky_useNext_1 : decode bb_Ky_useNext 1 = .ok (.aload_n 0, 1) := by decide +kernel
theorem dd_Ky_useNext_2 : decode bb_Ky_useNext 2 = .ok (.getfield 19, 3) := by decide +kernel
theorem dd_Ky_useNext_5 : decode bb_Ky_useNext 5 = .ok (.iload_n 1, 1) := by decide +kernel
theorem dd_Ky_useNext_6 : decode bb_Ky_useNext 6 = .ok (.invokevirtual 38, 3) := by decide +kernel
theorem dd_Ky_useNext_9 : decode bb_Ky_useNext 9 = .ok (.ifCond .ne (5), 3) := by decide +kernel
theorem dd_Ky_useNext_12 : decode bb_Ky_useNext 12 = .ok (.iconst 0, 1) := by decide +kernel
theorem dd_Ky_useNext_13 : decode bb_Ky_useNext 13 = .ok (.ireturn, 1) := by decide +kernel
theorem dd_Ky_useNext_14 : decode bb_Ky_useNext 14 = .ok (.aload_n 0, 1) := by decide +kernel
theorem dd_Ky_useNext_15 : decode bb_Ky_useNext 15 = .ok (.aload_n 0, 1) := by decide +kernel
theorem dd_Ky_useNext_16 : decode bb_Ky_useNext 16 = .ok (.getfield 19, 3) := by decide +kernel
theorem dd_Ky_useNext_19 : decode bb_Ky_useNext 19 = .ok (.putfield 25, 3) := by decide +kernel
theorem dd_Ky_useNext_22 : decode bb_Ky_useNext 22 = .ok (.aload_n 0, 1) := by decide +kernel
theorem dd_Ky_useNext_23 : decode bb_Ky_useNext 23 = .ok (.iconst (-1), 1) := by decide +kernel
theorem dd_Ky_useNext_24 : decode bb_Ky_useNext 24 = .ok (.putfield 19, 3) := by decide +kernel
theorem dd_Ky_useNext_27 : decode bb_Ky_useNext 27 = .ok (.iconst 1, 1) := by decide +kernel
theorem dd_Ky_useNext_28 : decode bb_Ky_useNext 28 = .ok (.ireturn, 1) := by decide +kernel

