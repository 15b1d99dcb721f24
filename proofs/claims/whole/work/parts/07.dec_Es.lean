theorem dd_Es_init_0 : decode bb_Es_init 0 = .ok (.aload_n 0, 1) := by decide +kernel
theorem dd_Es_init_1 : decode bb_Es_init 1 = .ok (.invokespecial 3, 3) := by decide +kernel
theorem dd_Es_init_4 : decode bb_Es_init 4 = .ok (.aload_n 0, 1) := by decide +kernel
theorem dd_Es_init_5 : decode bb_Es_init 5 = .ok (.new 9, 3) := by decide +kernel
theorem dd_Es_init_8 : decode bb_Es_init 8 = .ok (.dup, 1) := by decide +kernel
theorem dd_Es_init_9 : decode bb_Es_init 9 = .ok (.invokespecial 11, 3) := by decide +kernel
theorem dd_Es_init_12 : decode bb_Es_init 12 = .ok (.putfield 12, 3) := by decide +kernel
theorem dd_Es_init_15 : decode bb_Es_init 15 = .ok (.return_, 1) := by decide +kernel
theorem dd_Es_isFull_0 : decode bb_Es_isFull 0 = .ok (.aload_n 0, 1) := by decide +kernel
theorem dd_Es_isFull_1 : decode bb_Es_isFull 1 = .ok (.getfield 28, 3) := by decide +kernel
theorem dd_Es_isFull_4 : decode bb_Es_isFull 4 = .ok (.bipush (60), 2) := by decide +kernel
theorem dd_Es_isFull_6 : decode bb_Es_isFull 6 = .ok (.if_icmp .ge (15), 3) := by decide +kernel
theorem dd_Es_isFull_9 : decode bb_Es_isFull 9 = .ok (.aload_n 0, 1) := by decide +kernel
theorem dd_Es_isFull_10 : decode bb_Es_isFull 10 = .ok (.getfield 12, 3) := by decide +kernel
theorem dd_Es_isFull_13 : decode bb_Es_isFull 13 = .ok (.invokevirtual 18, 3) := by decide +kernel
theorem dd_Es_isFull_16 : decode bb_Es_isFull 16 = .ok (.bipush (12), 2) := by decide +kernel
theorem dd_Es_isFull_18 : decode bb_Es_isFull 18 = .ok (.if_icmp .lt (7), 3) := by decide +kernel
theorem dd_Es_isFull_21 : decode bb_Es_isFull 21 = .ok (.iconst 1, 1) := by decide +kernel
theorem dd_Es_isFull_22 : decode bb_Es_isFull 22 = .ok (.goto (4), 3) := by decide +kernel
theorem dd_Es_isFull_25 : decode bb_Es_isFull 25 = .ok (.iconst 0, 1) := by decide +kernel
theorem dd_Es_isFull_26 : decode bb_Es_isFull 26 = .ok (.ireturn, 1) := by decide +kernel
theorem dd_Es_make_0 : decode bb_Es_make 0 = .ok (.aload_n 0, 1) := by decide +kernel
theorem dd_Es_make_1 : decode bb_Es_make 1 = .ok (.getfield 12, 3) := by decide +kernel
theorem dd_Es_make_4 : decode bb_Es_make 4 = .ok (.new 26, 3) := by decide +kernel
theorem dd_Es_make_7 : decode bb_Es_make 7 = .ok (.dup, 1) := by decide +kernel
theorem dd_Es_make_8 : decode bb_Es_make 8 = .ok (.aload_n 0, 1) := by decide +kernel
theorem dd_Es_make_9 : decode bb_Es_make 9 = .ok (.getfield 28, 3) := by decide +kernel
theorem dd_Es_make_12 : decode bb_Es_make 12 = .ok (.iload_n 1, 1) := by decide +kernel
theorem dd_Es_make_13 : decode bb_Es_make 13 = .ok (.iload_n 2, 1) := by decide +kernel
theorem dd_Es_make_14 : decode bb_Es_make 14 = .ok (.iload_n 3, 1) := by decide +kernel
theorem dd_Es_make_15 : decode bb_Es_make 15 = .ok (.iload 4, 2) := by decide +kernel
theorem dd_Es_make_17 : decode bb_Es_make 17 = .ok (.iload 5, 2) := by decide +kernel
theorem dd_Es_make_19 : decode bb_Es_make 19 = .ok (.invokespecial 32, 3) := by decide +kernel
theorem dd_Es_make_22 : decode bb_Es_make 22 = .ok (.invokevirtual 35, 3) := by decide +kernel
theorem dd_Es_make_25 : decode bb_Es_make 25 = .ok (.pop, 1) := by decide +kernel
theorem dd_Es_make_26 : decode bb_Es_make 26 = .ok (.aload_n 0, 1) := by decide +kernel
theorem dd_Es_make_27 : decode bb_Es_make 27 = .ok (.dup, 1) := by decide +kernel
theorem dd_Es_make_28 : decode bb_Es_make 28 = .ok (.getfield 28, 3) := by decide +kernel
theorem dd_Es_make_31 : decode bb_Es_make 31 = .ok (.iconst 1, 1) := by decide +kernel
theorem dd_Es_make_32 : decode bb_Es_make 32 = .ok (.iadd, 1) := by decide +kernel
theorem dd_Es_make_33 : decode bb_Es_make 33 = .ok (.putfield 28, 3) := by decide +kernel
theorem dd_Es_make_36 : decode bb_Es_make 36 = .ok (.aload_n 0, 1) := by decide +kernel
theorem dd_Es_make_37 : decode bb_Es_make 37 = .ok (.getfield 28, 3) := by decide +kernel
theorem dd_Es_make_40 : decode bb_Es_make 40 = .ok (.iconst 1, 1) := by decide +kernel
theorem dd_Es_make_41 : decode bb_Es_make 41 = .ok (.isub, 1) := by decide +kernel
theorem dd_Es_make_42 : decode bb_Es_make 42 = .ok (.ireturn, 1) := by decide +kernel
theorem dd_Es_drop_0 : decode bb_Es_drop 0 = .ok (.iconst 0, 1) := by decide +kernel
theorem dd_Es_drop_1 : decode bb_Es_drop 1 = .ok (.istore_n 2, 1) := by decide +kernel
theorem dd_Es_drop_2 : decode bb_Es_drop 2 = .ok (.iload_n 2, 1) := by decide +kernel
theorem dd_Es_drop_3 : decode bb_Es_drop 3 = .ok (.aload_n 0, 1) := by decide +kernel
theorem dd_Es_drop_4 : decode bb_Es_drop 4 = .ok (.getfield 12, 3) := by decide +kernel
theorem dd_Es_drop_7 : decode bb_Es_drop 7 = .ok (.invokevirtual 18, 3) := by decide +kernel
theorem dd_Es_drop_10 : decode bb_Es_drop 10 = .ok (.if_icmp .ge (38), 3) := by decide +kernel
theorem dd_Es_drop_13 : decode bb_Es_drop 13 = .ok (.aload_n 0, 1) := by decide +kernel
theorem dd_Es_drop_14 : decode bb_Es_drop 14 = .ok (.getfield 12, 3) := by decide +kernel
theorem dd_Es_drop_17 : decode bb_Es_drop 17 = .ok (.iload_n 2, 1) := by decide +kernel
theorem dd_Es_drop_18 : decode bb_Es_drop 18 = .ok (.invokevirtual 22, 3) := by decide +kernel
theorem dd_Es_drop_21 : decode bb_Es_drop 21 = .ok (.checkcast 26, 3) := by decide +kernel
theorem dd_Es_drop_24 : decode bb_Es_drop 24 = .ok (.getfield 39, 3) := by decide +kernel
theorem dd_Es_drop_27 : decode bb_Es_drop 27 = .ok (.iload_n 1, 1) := by decide +kernel
theorem dd_Es_drop_28 : decode bb_Es_drop 28 = .ok (.if_icmp .ne (14), 3) := by decide +kernel
theorem dd_Es_drop_31 : decode bb_Es_drop 31 = .ok (.aload_n 0, 1) := by decide +kernel
theorem dd_Es_drop_32 : decode bb_Es_drop 32 = .ok (.getfield 12, 3) := by decide +kernel
theorem dd_Es_drop_35 : decode bb_Es_drop 35 = .ok (.iload_n 2, 1) := by decide +kernel
theorem dd_Es_drop_36 : decode bb_Es_drop 36 = .ok (.invokevirtual 42, 3) := by decide +kernel
theorem dd_Es_drop_39 : decode bb_Es_drop 39 = .ok (.pop, 1) := by decide +kernel
theorem dd_Es_drop_40 : decode bb_Es_drop 40 = .ok (.iconst 1, 1) := by decide +kernel
theorem dd_Es_drop_41 : decode bb_Es_drop 41 = .ok (.ireturn, 1) := by decide +kernel
theorem dd_Es_drop_42 : decode bb_Es_drop 42 = .ok (.iinc 2 (1), 3) := by decide +kernel
theorem dd_Es_drop_45 : decode bb_Es_drop 45 = .ok (.goto (-43), 3) := by decide +kernel
theorem dd_Es_drop_48 : decode bb_Es_drop 48 = .ok (.iconst 0, 1) := by decide +kernel
theorem dd_Es_drop_49 : decode bb_Es_drop 49 = .ok (.ireturn, 1) := by decide +kernel
theorem dd_Es_reachOf_0 : decode bb_Es_reachOf 0 = .ok (.iconst 1, 1) := by decide +kernel
theorem dd_Es_reachOf_1 : decode bb_Es_reachOf 1 = .ok (.aload_n 1, 1) := by decide +kernel
theorem dd_Es_reachOf_2 : decode bb_Es_reachOf 2 = .ok (.getfield 45, 3) := by decide +kernel
theorem dd_Es_reachOf_5 : decode bb_Es_reachOf 5 = .ok (.ishl, 1) := by decide +kernel
theorem dd_Es_reachOf_6 : decode bb_Es_reachOf 6 = .ok (.istore_n 2, 1) := by decide +kernel
theorem dd_Es_reachOf_7 : decode bb_Es_reachOf 7 = .ok (.iconst 0, 1) := by decide +kernel
theorem dd_Es_reachOf_8 : decode bb_Es_reachOf 8 = .ok (.istore_n 3, 1) := by decide +kernel
theorem dd_Es_reachOf_9 : decode bb_Es_reachOf 9 = .ok (.iload_n 3, 1) := by decide +kernel
theorem dd_Es_reachOf_10 : decode bb_Es_reachOf 10 = .ok (.aload_n 0, 1) := by decide +kernel
theorem dd_Es_reachOf_11 : decode bb_Es_reachOf 11 = .ok (.getfield 12, 3) := by decide +kernel
theorem dd_Es_reachOf_14 : decode bb_Es_reachOf 14 = .ok (.invokevirtual 18, 3) := by decide +kernel
theorem dd_Es_reachOf_17 : decode bb_Es_reachOf 17 = .ok (.if_icmp .ge (52), 3) := by decide +kernel
theorem dd_Es_reachOf_20 : decode bb_Es_reachOf 20 = .ok (.aload_n 0, 1) := by decide +kernel
theorem dd_Es_reachOf_21 : decode bb_Es_reachOf 21 = .ok (.getfield 12, 3) := by decide +kernel
theorem dd_Es_reachOf_24 : decode bb_Es_reachOf 24 = .ok (.iload_n 3, 1) := by decide +kernel
theorem dd_Es_reachOf_25 : decode bb_Es_reachOf 25 = .ok (.invokevirtual 22, 3) := by decide +kernel
theorem dd_Es_reachOf_28 : decode bb_Es_reachOf 28 = .ok (.checkcast 26, 3) := by decide +kernel
theorem dd_Es_reachOf_31 : decode bb_Es_reachOf 31 = .ok (.astore 4, 2) := by decide +kernel
theorem dd_Es_reachOf_33 : decode bb_Es_reachOf 33 = .ok (.aload 4, 2) := by decide +kernel
theorem dd_Es_reachOf_35 : decode bb_Es_reachOf 35 = .ok (.getfield 50, 3) := by decide +kernel
theorem dd_Es_reachOf_38 : decode bb_Es_reachOf 38 = .ok (.ifCond .ne (25), 3) := by decide +kernel
theorem dd_Es_reachOf_41 : decode bb_Es_reachOf 41 = .ok (.aload 4, 2) := by decide +kernel
theorem dd_Es_reachOf_43 : decode bb_Es_reachOf 43 = .ok (.aload_n 1, 1) := by decide +kernel
theorem dd_Es_reachOf_44 : decode bb_Es_reachOf 44 = .ok (.getfield 53, 3) := by decide +kernel
theorem dd_Es_reachOf_47 : decode bb_Es_reachOf 47 = .ok (.invokevirtual 56, 3) := by decide +kernel
theorem dd_Es_reachOf_50 : decode bb_Es_reachOf 50 = .ok (.ifCond .eq (13), 3) := by decide +kernel
theorem dd_Es_reachOf_53 : decode bb_Es_reachOf 53 = .ok (.iload_n 2, 1) := by decide +kernel
theorem dd_Es_reachOf_54 : decode bb_Es_reachOf 54 = .ok (.iconst 1, 1) := by decide +kernel
theorem dd_Es_reachOf_55 : decode bb_Es_reachOf 55 = .ok (.aload 4, 2) := by decide +kernel
theorem dd_Es_reachOf_57 : decode bb_Es_reachOf 57 = .ok (.getfield 60, 3) := by decide +kernel
theorem dd_Es_reachOf_60 : decode bb_Es_reachOf 60 = .ok (.ishl, 1) := by decide +kernel
theorem dd_Es_reachOf_61 : decode bb_Es_reachOf 61 = .ok (.ior, 1) := by decide +kernel
theorem dd_Es_reachOf_62 : decode bb_Es_reachOf 62 = .ok (.istore_n 2, 1) := by decide +kernel
theorem dd_Es_reachOf_63 : decode bb_Es_reachOf 63 = .ok (.iinc 3 (1), 3) := by decide +kernel
theorem dd_Es_reachOf_66 : decode bb_Es_reachOf 66 = .ok (.goto (-57), 3) := by decide +kernel
theorem dd_Es_reachOf_69 : decode bb_Es_reachOf 69 = .ok (.iconst 0, 1) := by decide +kernel
theorem dd_Es_reachOf_70 : decode bb_Es_reachOf 70 = .ok (.istore_n 3, 1) := by decide +kernel
theorem dd_Es_reachOf_71 : decode bb_Es_reachOf 71 = .ok (.iload_n 3, 1) := by decide +kernel
theorem dd_Es_reachOf_72 : decode bb_Es_reachOf 72 = .ok (.aload_n 0, 1) := by decide +kernel
theorem dd_Es_reachOf_73 : decode bb_Es_reachOf 73 = .ok (.getfield 12, 3) := by decide +kernel
theorem dd_Es_reachOf_76 : decode bb_Es_reachOf 76 = .ok (.invokevirtual 18, 3) := by decide +kernel
theorem dd_Es_reachOf_79 : decode bb_Es_reachOf 79 = .ok (.if_icmp .ge (15), 3) := by decide +kernel
theorem dd_Es_reachOf_82 : decode bb_Es_reachOf 82 = .ok (.aload_n 0, 1) := by decide +kernel
theorem dd_Es_reachOf_83 : decode bb_Es_reachOf 83 = .ok (.iload_n 2, 1) := by decide +kernel
theorem dd_Es_reachOf_84 : decode bb_Es_reachOf 84 = .ok (.invokevirtual 61, 3) := by decide +kernel
theorem dd_Es_reachOf_87 : decode bb_Es_reachOf 87 = .ok (.istore_n 2, 1) := by decide +kernel
theorem dd_Es_reachOf_88 : decode bb_Es_reachOf 88 = .ok (.iinc 3 (1), 3) := by decide +kernel
theorem dd_Es_reachOf_91 : decode bb_Es_reachOf 91 = .ok (.goto (-20), 3) := by decide +kernel
theorem dd_Es_reachOf_94 : decode bb_Es_reachOf 94 = .ok (.iload_n 2, 1) := by decide +kernel
theorem dd_Es_reachOf_95 : decode bb_Es_reachOf 95 = .ok (.ireturn, 1) := by decide +kernel
theorem dd_Es_withChildren_0 : decode bb_Es_withChildren 0 = .ok (.iload_n 1, 1) := by decide +kernel
theorem dd_Es_withChildren_1 : decode bb_Es_withChildren 1 = .ok (.istore_n 2, 1) := by decide +kernel
theorem dd_Es_withChildren_2 : decode bb_Es_withChildren 2 = .ok (.iconst 0, 1) := by decide +kernel
theorem dd_Es_withChildren_3 : decode bb_Es_withChildren 3 = .ok (.istore_n 3, 1) := by decide +kernel
theorem dd_Es_withChildren_4 : decode bb_Es_withChildren 4 = .ok (.iload_n 3, 1) := by decide +kernel
theorem dd_Es_withChildren_5 : decode bb_Es_withChildren 5 = .ok (.aload_n 0, 1) := by decide +kernel
theorem dd_Es_withChildren_6 : decode bb_Es_withChildren 6 = .ok (.getfield 12, 3) := by decide +kernel
theorem dd_Es_withChildren_9 : decode bb_Es_withChildren 9 = .ok (.invokevirtual 18, 3) := by decide +kernel
theorem dd_Es_withChildren_12 : decode bb_Es_withChildren 12 = .ok (.if_icmp .ge (41), 3) := by decide +kernel
theorem dd_Es_withChildren_15 : decode bb_Es_withChildren 15 = .ok (.aload_n 0, 1) := by decide +kernel
theorem dd_Es_withChildren_16 : decode bb_Es_withChildren 16 = .ok (.getfield 12, 3) := by decide +kernel
theorem dd_Es_withChildren_19 : decode bb_Es_withChildren 19 = .ok (.iload_n 3, 1) := by decide +kernel
theorem dd_Es_withChildren_20 : decode bb_Es_withChildren 20 = .ok (.invokevirtual 22, 3) := by decide +kernel
theorem dd_Es_withChildren_23 : decode bb_Es_withChildren 23 = .ok (.checkcast 26, 3) := by decide +kernel
theorem dd_Es_withChildren_26 : decode bb_Es_withChildren 26 = .ok (.astore 4, 2) := by decide +kernel
theorem dd_Es_withChildren_28 : decode bb_Es_withChildren 28 = .ok (.aload 4, 2) := by decide +kernel
theorem dd_Es_withChildren_30 : decode bb_Es_withChildren 30 = .ok (.iload_n 2, 1) := by decide +kernel
theorem dd_Es_withChildren_31 : decode bb_Es_withChildren 31 = .ok (.invokevirtual 65, 3) := by decide +kernel
theorem dd_Es_withChildren_34 : decode bb_Es_withChildren 34 = .ok (.ifCond .eq (13), 3) := by decide +kernel
theorem dd_Es_withChildren_37 : decode bb_Es_withChildren 37 = .ok (.iload_n 2, 1) := by decide +kernel
theorem dd_Es_withChildren_38 : decode bb_Es_withChildren 38 = .ok (.iconst 1, 1) := by decide +kernel
theorem dd_Es_withChildren_39 : decode bb_Es_withChildren 39 = .ok (.aload 4, 2) := by decide +kernel
theorem dd_Es_withChildren_41 : decode bb_Es_withChildren 41 = .ok (.getfield 60, 3) := by decide +kernel
theorem dd_Es_withChildren_44 : decode bb_Es_withChildren 44 = .ok (.ishl, 1) := by decide +kernel
theorem dd_Es_withChildren_45 : decode bb_Es_withChildren 45 = .ok (.ior, 1) := by decide +kernel
theorem dd_Es_withChildren_46 : decode bb_Es_withChildren 46 = .ok (.istore_n 2, 1) := by decide +kernel
theorem dd_Es_withChildren_47 : decode bb_Es_withChildren 47 = .ok (.iinc 3 (1), 3) := by decide +kernel
theorem dd_Es_withChildren_50 : decode bb_Es_withChildren 50 = .ok (.goto (-46), 3) := by decide +kernel
theorem dd_Es_withChildren_53 : decode bb_Es_withChildren 53 = .ok (.iload_n 2, 1) := by decide +kernel
theorem dd_Es_withChildren_54 : decode bb_Es_withChildren 54 = .ok (.ireturn, 1) := by decide +kernel
theorem dd_Es_size_0 : decode bb_Es_size 0 = .ok (.aload_n 0, 1) := by decide +kernel
theorem dd_Es_size_1 : decode bb_Es_size 1 = .ok (.getfield 12, 3) := by decide +kernel
theorem dd_Es_size_4 : decode bb_Es_size 4 = .ok (.invokevirtual 18, 3) := by decide +kernel
theorem dd_Es_size_7 : decode bb_Es_size 7 = .ok (.ireturn, 1) := by decide +kernel
theorem dd_Es_at_0 : decode bb_Es_at 0 = .ok (.aload_n 0, 1) := by decide +kernel
theorem dd_Es_at_1 : decode bb_Es_at 1 = .ok (.getfield 12, 3) := by decide +kernel
theorem dd_Es_at_4 : decode bb_Es_at 4 = .ok (.iload_n 1, 1) := by decide +kernel
theorem dd_Es_at_5 : decode bb_Es_at 5 = .ok (.invokevirtual 22, 3) := by decide +kernel
theorem dd_Es_at_8 : decode bb_Es_at 8 = .ok (.checkcast 26, 3) := by decide +kernel
theorem dd_Es_at_11 : decode bb_Es_at 11 = .ok (.areturn, 1) := by decide +kernel
