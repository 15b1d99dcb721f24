theorem dd_Xi_init_0 : decode bb_Xi_init 0 = .ok (.aload_n 0, 1) := by decide +kernel
theorem dd_Xi_init_1 : decode bb_Xi_init 1 = .ok (.invokespecial 1, 3) := by decide +kernel
theorem dd_Xi_init_4 : decode bb_Xi_init 4 = .ok (.aload_n 0, 1) := by decide +kernel
theorem dd_Xi_init_5 : decode bb_Xi_init 5 = .ok (.new 7, 3) := by decide +kernel
theorem dd_Xi_init_8 : decode bb_Xi_init 8 = .ok (.dup, 1) := by decide +kernel
theorem dd_Xi_init_9 : decode bb_Xi_init 9 = .ok (.invokespecial 9, 3) := by decide +kernel
theorem dd_Xi_init_12 : decode bb_Xi_init 12 = .ok (.putfield 10, 3) := by decide +kernel
theorem dd_Xi_init_15 : decode bb_Xi_init 15 = .ok (.aload_n 0, 1) := by decide +kernel
theorem dd_Xi_init_16 : decode bb_Xi_init 16 = .ok (.new 16, 3) := by decide +kernel
theorem dd_Xi_init_19 : decode bb_Xi_init 19 = .ok (.dup, 1) := by decide +kernel
theorem dd_Xi_init_20 : decode bb_Xi_init 20 = .ok (.invokespecial 18, 3) := by decide +kernel
theorem dd_Xi_init_23 : decode bb_Xi_init 23 = .ok (.putfield 19, 3) := by decide +kernel
theorem dd_Xi_init_26 : decode bb_Xi_init 26 = .ok (.aload_n 0, 1) := by decide +kernel
theorem dd_Xi_init_27 : decode bb_Xi_init 27 = .ok (.new 23, 3) := by decide +kernel
theorem dd_Xi_init_30 : decode bb_Xi_init 30 = .ok (.dup, 1) := by decide +kernel
theorem dd_Xi_init_31 : decode bb_Xi_init 31 = .ok (.invokespecial 25, 3) := by decide +kernel
theorem dd_Xi_init_34 : decode bb_Xi_init 34 = .ok (.putfield 26, 3) := by decide +kernel
theorem dd_Xi_init_37 : decode bb_Xi_init 37 = .ok (.aload_n 0, 1) := by decide +kernel
theorem dd_Xi_init_38 : decode bb_Xi_init 38 = .ok (.new 30, 3) := by decide +kernel
theorem dd_Xi_init_41 : decode bb_Xi_init 41 = .ok (.dup, 1) := by decide +kernel
theorem dd_Xi_init_42 : decode bb_Xi_init 42 = .ok (.invokespecial 32, 3) := by decide +kernel
theorem dd_Xi_init_45 : decode bb_Xi_init 45 = .ok (.putfield 33, 3) := by decide +kernel
theorem dd_Xi_init_48 : decode bb_Xi_init 48 = .ok (.aload_n 0, 1) := by decide +kernel
theorem dd_Xi_init_49 : decode bb_Xi_init 49 = .ok (.new 30, 3) := by decide +kernel
theorem dd_Xi_init_52 : decode bb_Xi_init 52 = .ok (.dup, 1) := by decide +kernel
theorem dd_Xi_init_53 : decode bb_Xi_init 53 = .ok (.invokespecial 32, 3) := by decide +kernel
theorem dd_Xi_init_56 : decode bb_Xi_init 56 = .ok (.putfield 37, 3) := by decide +kernel
theorem dd_Xi_init_59 : decode bb_Xi_init 59 = .ok (.aload_n 0, 1) := by decide +kernel
theorem dd_Xi_init_60 : decode bb_Xi_init 60 = .ok (.new 40, 3) := by decide +kernel
theorem dd_Xi_init_63 : decode bb_Xi_init 63 = .ok (.dup, 1) := by decide +kernel
theorem dd_Xi_init_64 : decode bb_Xi_init 64 = .ok (.invokespecial 42, 3) := by decide +kernel
theorem dd_Xi_init_67 : decode bb_Xi_init 67 = .ok (.putfield 43, 3) := by decide +kernel
theorem dd_Xi_init_70 : decode bb_Xi_init 70 = .ok (.aload_n 0, 1) := by decide +kernel
theorem dd_Xi_init_71 : decode bb_Xi_init 71 = .ok (.new 47, 3) := by decide +kernel
theorem dd_Xi_init_74 : decode bb_Xi_init 74 = .ok (.dup, 1) := by decide +kernel
theorem dd_Xi_init_75 : decode bb_Xi_init 75 = .ok (.invokespecial 49, 3) := by decide +kernel
theorem dd_Xi_init_78 : decode bb_Xi_init 78 = .ok (.putfield 50, 3) := by decide +kernel
theorem dd_Xi_init_81 : decode bb_Xi_init 81 = .ok (.aload_n 0, 1) := by decide +kernel
theorem dd_Xi_init_82 : decode bb_Xi_init 82 = .ok (.new 54, 3) := by decide +kernel
theorem dd_Xi_init_85 : decode bb_Xi_init 85 = .ok (.dup, 1) := by decide +kernel
theorem dd_Xi_init_86 : decode bb_Xi_init 86 = .ok (.invokespecial 56, 3) := by decide +kernel
theorem dd_Xi_init_89 : decode bb_Xi_init 89 = .ok (.putfield 57, 3) := by decide +kernel
theorem dd_Xi_init_92 : decode bb_Xi_init 92 = .ok (.aload_n 0, 1) := by decide +kernel
theorem dd_Xi_init_93 : decode bb_Xi_init 93 = .ok (.new 30, 3) := by decide +kernel
theorem dd_Xi_init_96 : decode bb_Xi_init 96 = .ok (.dup, 1) := by decide +kernel
theorem dd_Xi_init_97 : decode bb_Xi_init 97 = .ok (.invokespecial 32, 3) := by decide +kernel
theorem dd_Xi_init_100 : decode bb_Xi_init 100 = .ok (.putfield 61, 3) := by decide +kernel
theorem dd_Xi_init_103 : decode bb_Xi_init 103 = .ok (.aload_n 0, 1) := by decide +kernel
theorem dd_Xi_init_104 : decode bb_Xi_init 104 = .ok (.new 40, 3) := by decide +kernel
theorem dd_Xi_init_107 : decode bb_Xi_init 107 = .ok (.dup, 1) := by decide +kernel
theorem dd_Xi_init_108 : decode bb_Xi_init 108 = .ok (.invokespecial 42, 3) := by decide +kernel
theorem dd_Xi_init_111 : decode bb_Xi_init 111 = .ok (.putfield 64, 3) := by decide +kernel
theorem dd_Xi_init_114 : decode bb_Xi_init 114 = .ok (.aload_n 0, 1) := by decide +kernel
theorem dd_Xi_init_115 : decode bb_Xi_init 115 = .ok (.new 67, 3) := by decide +kernel
theorem dd_Xi_init_118 : decode bb_Xi_init 118 = .ok (.dup, 1) := by decide +kernel
theorem dd_Xi_init_119 : decode bb_Xi_init 119 = .ok (.bipush (32), 2) := by decide +kernel
theorem dd_Xi_init_121 : decode bb_Xi_init 121 = .ok (.sipush (256), 3) := by decide +kernel
theorem dd_Xi_init_124 : decode bb_Xi_init 124 = .ok (.iload_n 1, 1) := by decide +kernel
theorem dd_Xi_init_125 : decode bb_Xi_init 125 = .ok (.invokestatic 69, 3) := by decide +kernel
theorem dd_Xi_init_128 : decode bb_Xi_init 128 = .ok (.invokestatic 75, 3) := by decide +kernel
theorem dd_Xi_init_131 : decode bb_Xi_init 131 = .ok (.invokespecial 78, 3) := by decide +kernel
theorem dd_Xi_init_134 : decode bb_Xi_init 134 = .ok (.putfield 81, 3) := by decide +kernel
theorem dd_Xi_init_137 : decode bb_Xi_init 137 = .ok (.return_, 1) := by decide +kernel
theorem dd_Xi_put_0 : decode bb_Xi_put 0 = .ok (.iload_n 2, 1) := by decide +kernel
theorem dd_Xi_put_1 : decode bb_Xi_put 1 = .ok (.iconst 1, 1) := by decide +kernel
theorem dd_Xi_put_2 : decode bb_Xi_put 2 = .ok (.if_icmp .lt (22), 3) := by decide +kernel
theorem dd_Xi_put_5 : decode bb_Xi_put 5 = .ok (.iload_n 2, 1) := by decide +kernel
theorem dd_Xi_put_6 : decode bb_Xi_put 6 = .ok (.iconst 4, 1) := by decide +kernel
theorem dd_Xi_put_7 : decode bb_Xi_put 7 = .ok (.if_icmp .gt (17), 3) := by decide +kernel
theorem dd_Xi_put_10 : decode bb_Xi_put 10 = .ok (.aload_n 0, 1) := by decide +kernel
theorem dd_Xi_put_11 : decode bb_Xi_put 11 = .ok (.getfield 10, 3) := by decide +kernel
theorem dd_Xi_put_14 : decode bb_Xi_put 14 = .ok (.invokevirtual 85, 3) := by decide +kernel
theorem dd_Xi_put_17 : decode bb_Xi_put 17 = .ok (.iload_n 2, 1) := by decide +kernel
theorem dd_Xi_put_18 : decode bb_Xi_put 18 = .ok (.iadd, 1) := by decide +kernel
theorem dd_Xi_put_19 : decode bb_Xi_put 19 = .ok (.bipush (100), 2) := by decide +kernel
theorem dd_Xi_put_21 : decode bb_Xi_put 21 = .ok (.if_icmp .le (5), 3) := by decide +kernel
theorem dd_Xi_put_24 : decode bb_Xi_put 24 = .ok (.iconst 0, 1) := by decide +kernel
theorem dd_Xi_put_25 : decode bb_Xi_put 25 = .ok (.ireturn, 1) := by decide +kernel
theorem dd_Xi_put_26 : decode bb_Xi_put 26 = .ok (.iload_n 2, 1) := by decide +kernel
theorem dd_Xi_put_27 : decode bb_Xi_put 27 = .ok (.iconst 1, 1) := by decide +kernel
theorem dd_Xi_put_28 : decode bb_Xi_put 28 = .ok (.isub, 1) := by decide +kernel
theorem dd_Xi_put_29 : decode bb_Xi_put 29 = .ok (.istore_n 3, 1) := by decide +kernel
theorem dd_Xi_put_30 : decode bb_Xi_put 30 = .ok (.iload_n 3, 1) := by decide +kernel
theorem dd_Xi_put_31 : decode bb_Xi_put 31 = .ok (.ifCond .lt (26), 3) := by decide +kernel
theorem dd_Xi_put_34 : decode bb_Xi_put 34 = .ok (.aload_n 0, 1) := by decide +kernel
theorem dd_Xi_put_35 : decode bb_Xi_put 35 = .ok (.getfield 10, 3) := by decide +kernel
theorem dd_Xi_put_38 : decode bb_Xi_put 38 = .ok (.iload_n 1, 1) := by decide +kernel
theorem dd_Xi_put_39 : decode bb_Xi_put 39 = .ok (.bipush (8), 2) := by decide +kernel
theorem dd_Xi_put_41 : decode bb_Xi_put 41 = .ok (.iload_n 3, 1) := by decide +kernel
theorem dd_Xi_put_42 : decode bb_Xi_put 42 = .ok (.imul, 1) := by decide +kernel
theorem dd_Xi_put_43 : decode bb_Xi_put 43 = .ok (.iushr, 1) := by decide +kernel
theorem dd_Xi_put_44 : decode bb_Xi_put 44 = .ok (.sipush (255), 3) := by decide +kernel
theorem dd_Xi_put_47 : decode bb_Xi_put 47 = .ok (.iand, 1) := by decide +kernel
theorem dd_Xi_put_48 : decode bb_Xi_put 48 = .ok (.invokevirtual 89, 3) := by decide +kernel
theorem dd_Xi_put_51 : decode bb_Xi_put 51 = .ok (.iinc 3 (-1), 3) := by decide +kernel
theorem dd_Xi_put_54 : decode bb_Xi_put 54 = .ok (.goto (-24), 3) := by decide +kernel
theorem dd_Xi_put_57 : decode bb_Xi_put 57 = .ok (.iconst 1, 1) := by decide +kernel
theorem dd_Xi_put_58 : decode bb_Xi_put 58 = .ok (.ireturn, 1) := by decide +kernel
theorem dd_Xi_id_0 : decode bb_Xi_id 0 = .ok (.aload_n 0, 1) := by decide +kernel
theorem dd_Xi_id_1 : decode bb_Xi_id 1 = .ok (.invokevirtual 92, 3) := by decide +kernel
theorem dd_Xi_id_4 : decode bb_Xi_id 4 = .ok (.istore_n 1, 1) := by decide +kernel
theorem dd_Xi_id_5 : decode bb_Xi_id 5 = .ok (.aload_n 0, 1) := by decide +kernel
theorem dd_Xi_id_6 : decode bb_Xi_id 6 = .ok (.getfield 10, 3) := by decide +kernel
theorem dd_Xi_id_9 : decode bb_Xi_id 9 = .ok (.invokevirtual 95, 3) := by decide +kernel
theorem dd_Xi_id_12 : decode bb_Xi_id 12 = .ok (.iload_n 1, 1) := by decide +kernel
theorem dd_Xi_id_13 : decode bb_Xi_id 13 = .ok (.ireturn, 1) := by decide +kernel
theorem dd_Xi_numberOfText_0 : decode bb_Xi_numberOfText 0 = .ok (.aload_n 0, 1) := by decide +kernel
theorem dd_Xi_numberOfText_1 : decode bb_Xi_numberOfText 1 = .ok (.getfield 10, 3) := by decide +kernel
theorem dd_Xi_numberOfText_4 : decode bb_Xi_numberOfText 4 = .ok (.iconst 0, 1) := by decide +kernel
theorem dd_Xi_numberOfText_5 : decode bb_Xi_numberOfText 5 = .ok (.aload_n 0, 1) := by decide +kernel
theorem dd_Xi_numberOfText_6 : decode bb_Xi_numberOfText 6 = .ok (.getfield 10, 3) := by decide +kernel
theorem dd_Xi_numberOfText_9 : decode bb_Xi_numberOfText 9 = .ok (.invokevirtual 85, 3) := by decide +kernel
theorem dd_Xi_numberOfText_12 : decode bb_Xi_numberOfText 12 = .ok (.invokestatic 272, 3) := by decide +kernel
theorem dd_Xi_numberOfText_15 : decode bb_Xi_numberOfText 15 = .ok (.istore_n 1, 1) := by decide +kernel
theorem dd_Xi_numberOfText_16 : decode bb_Xi_numberOfText 16 = .ok (.iload_n 1, 1) := by decide +kernel
theorem dd_Xi_numberOfText_17 : decode bb_Xi_numberOfText 17 = .ok (.iconst (-1), 1) := by decide +kernel
theorem dd_Xi_numberOfText_18 : decode bb_Xi_numberOfText 18 = .ok (.if_icmp .eq (7), 3) := by decide +kernel
theorem dd_Xi_numberOfText_21 : decode bb_Xi_numberOfText 21 = .ok (.iconst (-1), 1) := by decide +kernel
theorem dd_Xi_numberOfText_22 : decode bb_Xi_numberOfText 22 = .ok (.iload_n 1, 1) := by decide +kernel
theorem dd_Xi_numberOfText_23 : decode bb_Xi_numberOfText 23 = .ok (.isub, 1) := by decide +kernel
theorem dd_Xi_numberOfText_24 : decode bb_Xi_numberOfText 24 = .ok (.ireturn, 1) := by decide +kernel
theorem dd_Xi_numberOfText_25 : decode bb_Xi_numberOfText 25 = .ok (.aload_n 0, 1) := by decide +kernel
theorem dd_Xi_numberOfText_26 : decode bb_Xi_numberOfText 26 = .ok (.getfield 19, 3) := by decide +kernel
theorem dd_Xi_numberOfText_29 : decode bb_Xi_numberOfText 29 = .ok (.aload_n 0, 1) := by decide +kernel
theorem dd_Xi_numberOfText_30 : decode bb_Xi_numberOfText 30 = .ok (.getfield 10, 3) := by decide +kernel
theorem dd_Xi_numberOfText_33 : decode bb_Xi_numberOfText 33 = .ok (.invokevirtual 276, 3) := by decide +kernel
theorem dd_Xi_numberOfText_36 : decode bb_Xi_numberOfText 36 = .ok (.istore_n 2, 1) := by decide +kernel
theorem dd_Xi_numberOfText_37 : decode bb_Xi_numberOfText 37 = .ok (.iload_n 2, 1) := by decide +kernel
theorem dd_Xi_numberOfText_38 : decode bb_Xi_numberOfText 38 = .ok (.iconst (-1), 1) := by decide +kernel
theorem dd_Xi_numberOfText_39 : decode bb_Xi_numberOfText 39 = .ok (.if_icmp .eq (5), 3) := by decide +kernel
theorem dd_Xi_numberOfText_42 : decode bb_Xi_numberOfText 42 = .ok (.iload_n 2, 1) := by decide +kernel
theorem dd_Xi_numberOfText_43 : decode bb_Xi_numberOfText 43 = .ok (.ireturn, 1) := by decide +kernel
theorem dd_Xi_numberOfText_44 : decode bb_Xi_numberOfText 44 = .ok (.aload_n 0, 1) := by decide +kernel
theorem dd_Xi_numberOfText_45 : decode bb_Xi_numberOfText 45 = .ok (.getfield 19, 3) := by decide +kernel
theorem dd_Xi_numberOfText_48 : decode bb_Xi_numberOfText 48 = .ok (.invokevirtual 280, 3) := by decide +kernel
theorem dd_Xi_numberOfText_51 : decode bb_Xi_numberOfText 51 = .ok (.ifCond .eq (9), 3) := by decide +kernel
theorem dd_Xi_numberOfText_54 : decode bb_Xi_numberOfText 54 = .ok (.sipush (-1003), 3) := by decide +kernel
theorem dd_Xi_numberOfText_57 : decode bb_Xi_numberOfText 57 = .ok (.goto (14), 3) := by decide +kernel
theorem dd_Xi_numberOfText_60 : decode bb_Xi_numberOfText 60 = .ok (.aload_n 0, 1) := by decide +kernel
theorem dd_Xi_numberOfText_61 : decode bb_Xi_numberOfText 61 = .ok (.getfield 19, 3) := by decide +kernel
theorem dd_Xi_numberOfText_64 : decode bb_Xi_numberOfText 64 = .ok (.aload_n 0, 1) := by decide +kernel
theorem dd_Xi_numberOfText_65 : decode bb_Xi_numberOfText 65 = .ok (.getfield 10, 3) := by decide +kernel
theorem dd_Xi_numberOfText_68 : decode bb_Xi_numberOfText 68 = .ok (.invokevirtual 281, 3) := by decide +kernel
theorem dd_Xi_numberOfText_71 : decode bb_Xi_numberOfText 71 = .ok (.ireturn, 1) := by decide +kernel
theorem dd_Xi_entry_0 : decode bb_Xi_entry 0 = .ok (.aload_n 0, 1) := by decide +kernel
theorem dd_Xi_entry_1 : decode bb_Xi_entry 1 = .ok (.getfield 19, 3) := by decide +kernel
theorem dd_Xi_entry_4 : decode bb_Xi_entry 4 = .ok (.iload_n 1, 1) := by decide +kernel
theorem dd_Xi_entry_5 : decode bb_Xi_entry 5 = .ok (.invokevirtual 98, 3) := by decide +kernel
theorem dd_Xi_entry_8 : decode bb_Xi_entry 8 = .ok (.ifCond .eq (14), 3) := by decide +kernel
theorem dd_Xi_entry_11 : decode bb_Xi_entry 11 = .ok (.aload_n 0, 1) := by decide +kernel
theorem dd_Xi_entry_12 : decode bb_Xi_entry 12 = .ok (.getfield 19, 3) := by decide +kernel
theorem dd_Xi_entry_15 : decode bb_Xi_entry 15 = .ok (.iload_n 2, 1) := by decide +kernel
theorem dd_Xi_entry_16 : decode bb_Xi_entry 16 = .ok (.invokevirtual 98, 3) := by decide +kernel
theorem dd_Xi_entry_19 : decode bb_Xi_entry 19 = .ok (.ifCond .ne (7), 3) := by decide +kernel
theorem dd_Xi_entry_22 : decode bb_Xi_entry 22 = .ok (.sipush (-1001), 3) := by decide +kernel
theorem dd_Xi_entry_25 : decode bb_Xi_entry 25 = .ok (.ireturn, 1) := by decide +kernel
theorem dd_Xi_entry_26 : decode bb_Xi_entry 26 = .ok (.aload_n 0, 1) := by decide +kernel
theorem dd_Xi_entry_27 : decode bb_Xi_entry 27 = .ok (.getfield 19, 3) := by decide +kernel
theorem dd_Xi_entry_30 : decode bb_Xi_entry 30 = .ok (.iload_n 1, 1) := by decide +kernel
theorem dd_Xi_entry_31 : decode bb_Xi_entry 31 = .ok (.invokevirtual 102, 3) := by decide +kernel
theorem dd_Xi_entry_34 : decode bb_Xi_entry 34 = .ok (.ifCond .eq (50), 3) := by decide +kernel
theorem dd_Xi_entry_37 : decode bb_Xi_entry 37 = .ok (.aload_n 0, 1) := by decide +kernel
theorem dd_Xi_entry_38 : decode bb_Xi_entry 38 = .ok (.getfield 19, 3) := by decide +kernel
theorem dd_Xi_entry_41 : decode bb_Xi_entry 41 = .ok (.iload_n 2, 1) := by decide +kernel
theorem dd_Xi_entry_42 : decode bb_Xi_entry 42 = .ok (.invokevirtual 105, 3) := by decide +kernel
theorem dd_Xi_entry_45 : decode bb_Xi_entry 45 = .ok (.ifCond .eq (39), 3) := by decide +kernel
theorem dd_Xi_entry_48 : decode bb_Xi_entry 48 = .ok (.iload_n 3, 1) := by decide +kernel
theorem dd_Xi_entry_49 : decode bb_Xi_entry 49 = .ok (.iconst 1, 1) := by decide +kernel
theorem dd_Xi_entry_50 : decode bb_Xi_entry 50 = .ok (.if_icmp .lt (34), 3) := by decide +kernel
theorem dd_Xi_entry_53 : decode bb_Xi_entry 53 = .ok (.iload_n 3, 1) := by decide +kernel
theorem dd_Xi_entry_54 : decode bb_Xi_entry 54 = .ok (.ldc 108, 2) := by decide +kernel
theorem dd_Xi_entry_56 : decode bb_Xi_entry 56 = .ok (.if_icmp .gt (28), 3) := by decide +kernel
theorem dd_Xi_entry_59 : decode bb_Xi_entry 59 = .ok (.iload 4, 2) := by decide +kernel
theorem dd_Xi_entry_61 : decode bb_Xi_entry 61 = .ok (.iconst 1, 1) := by decide +kernel
theorem dd_Xi_entry_62 : decode bb_Xi_entry 62 = .ok (.if_icmp .lt (22), 3) := by decide +kernel
theorem dd_Xi_entry_65 : decode bb_Xi_entry 65 = .ok (.iload 4, 2) := by decide +kernel
theorem dd_Xi_entry_67 : decode bb_Xi_entry 67 = .ok (.bipush (64), 2) := by decide +kernel
theorem dd_Xi_entry_69 : decode bb_Xi_entry 69 = .ok (.if_icmp .gt (15), 3) := by decide +kernel
theorem dd_Xi_entry_72 : decode bb_Xi_entry 72 = .ok (.iload 5, 2) := by decide +kernel
theorem dd_Xi_entry_74 : decode bb_Xi_entry 74 = .ok (.ifCond .lt (10), 3) := by decide +kernel
theorem dd_Xi_entry_77 : decode bb_Xi_entry 77 = .ok (.iload 5, 2) := by decide +kernel
theorem dd_Xi_entry_79 : decode bb_Xi_entry 79 = .ok (.bipush (15), 2) := by decide +kernel
theorem dd_Xi_entry_81 : decode bb_Xi_entry 81 = .ok (.if_icmp .le (7), 3) := by decide +kernel
theorem dd_Xi_entry_84 : decode bb_Xi_entry 84 = .ok (.sipush (-1002), 3) := by decide +kernel
theorem dd_Xi_entry_87 : decode bb_Xi_entry 87 = .ok (.ireturn, 1) := by decide +kernel
theorem dd_Xi_entry_88 : decode bb_Xi_entry 88 = .ok (.aload_n 0, 1) := by decide +kernel
theorem dd_Xi_entry_89 : decode bb_Xi_entry 89 = .ok (.getfield 26, 3) := by decide +kernel
theorem dd_Xi_entry_92 : decode bb_Xi_entry 92 = .ok (.invokevirtual 109, 3) := by decide +kernel
theorem dd_Xi_entry_95 : decode bb_Xi_entry 95 = .ok (.ifCond .eq (7), 3) := by decide +kernel
theorem dd_Xi_entry_98 : decode bb_Xi_entry 98 = .ok (.sipush (-1003), 3) := by decide +kernel
theorem dd_Xi_entry_101 : decode bb_Xi_entry 101 = .ok (.ireturn, 1) := by decide +kernel
theorem dd_Xi_entry_102 : decode bb_Xi_entry 102 = .ok (.aload_n 0, 1) := by decide +kernel
theorem dd_Xi_entry_103 : decode bb_Xi_entry 103 = .ok (.getfield 26, 3) := by decide +kernel
theorem dd_Xi_entry_106 : decode bb_Xi_entry 106 = .ok (.iload_n 1, 1) := by decide +kernel
theorem dd_Xi_entry_107 : decode bb_Xi_entry 107 = .ok (.iload_n 2, 1) := by decide +kernel
theorem dd_Xi_entry_108 : decode bb_Xi_entry 108 = .ok (.iload_n 3, 1) := by decide +kernel
theorem dd_Xi_entry_109 : decode bb_Xi_entry 109 = .ok (.iload 4, 2) := by decide +kernel
theorem dd_Xi_entry_111 : decode bb_Xi_entry 111 = .ok (.iload 5, 2) := by decide +kernel
theorem dd_Xi_entry_113 : decode bb_Xi_entry 113 = .ok (.invokevirtual 113, 3) := by decide +kernel
theorem dd_Xi_entry_116 : decode bb_Xi_entry 116 = .ok (.ireturn, 1) := by decide +kernel
theorem dd_Xi_remove_0 : decode bb_Xi_remove 0 = .ok (.aload_n 0, 1) := by decide +kernel
theorem dd_Xi_remove_1 : decode bb_Xi_remove 1 = .ok (.getfield 26, 3) := by decide +kernel
theorem dd_Xi_remove_4 : decode bb_Xi_remove 4 = .ok (.iload_n 1, 1) := by decide +kernel
theorem dd_Xi_remove_5 : decode bb_Xi_remove 5 = .ok (.invokevirtual 117, 3) := by decide +kernel
theorem dd_Xi_remove_8 : decode bb_Xi_remove 8 = .ok (.ireturn, 1) := by decide +kernel
theorem dd_Xi_foreign_0 : decode bb_Xi_foreign 0 = .ok (.iload_n 1, 1) := by decide +kernel
theorem dd_Xi_foreign_1 : decode bb_Xi_foreign 1 = .ok (.ifCond .lt (28), 3) := by decide +kernel
theorem dd_Xi_foreign_4 : decode bb_Xi_foreign 4 = .ok (.iload_n 1, 1) := by decide +kernel
theorem dd_Xi_foreign_5 : decode bb_Xi_foreign 5 = .ok (.iconst 4, 1) := by decide +kernel
theorem dd_Xi_foreign_6 : decode bb_Xi_foreign 6 = .ok (.if_icmp .ge (23), 3) := by decide +kernel
theorem dd_Xi_foreign_9 : decode bb_Xi_foreign 9 = .ok (.aload_n 0, 1) := by decide +kernel
theorem dd_Xi_foreign_10 : decode bb_Xi_foreign 10 = .ok (.getfield 120, 3) := by decide +kernel
theorem dd_Xi_foreign_13 : decode bb_Xi_foreign 13 = .ok (.iload_n 1, 1) := by decide +kernel
theorem dd_Xi_foreign_14 : decode bb_Xi_foreign 14 = .ok (.ishr, 1) := by decide +kernel
theorem dd_Xi_foreign_15 : decode bb_Xi_foreign 15 = .ok (.iconst 1, 1) := by decide +kernel
theorem dd_Xi_foreign_16 : decode bb_Xi_foreign 16 = .ok (.iand, 1) := by decide +kernel
theorem dd_Xi_foreign_17 : decode bb_Xi_foreign 17 = .ok (.iload_n 2, 1) := by decide +kernel
theorem dd_Xi_foreign_18 : decode bb_Xi_foreign 18 = .ok (.ifCond .eq (7), 3) := by decide +kernel
theorem dd_Xi_foreign_21 : decode bb_Xi_foreign 21 = .ok (.iconst 1, 1) := by decide +kernel
theorem dd_Xi_foreign_22 : decode bb_Xi_foreign 22 = .ok (.goto (4), 3) := by decide +kernel
theorem dd_Xi_foreign_25 : decode bb_Xi_foreign 25 = .ok (.iconst 0, 1) := by decide +kernel
theorem dd_Xi_foreign_26 : decode bb_Xi_foreign 26 = .ok (.if_icmp .ne (5), 3) := by decide +kernel
theorem dd_Xi_foreign_29 : decode bb_Xi_foreign 29 = .ok (.iconst 0, 1) := by decide +kernel
theorem dd_Xi_foreign_30 : decode bb_Xi_foreign 30 = .ok (.ireturn, 1) := by decide +kernel
theorem dd_Xi_foreign_31 : decode bb_Xi_foreign 31 = .ok (.aload_n 0, 1) := by decide +kernel
theorem dd_Xi_foreign_32 : decode bb_Xi_foreign 32 = .ok (.dup, 1) := by decide +kernel
theorem dd_Xi_foreign_33 : decode bb_Xi_foreign 33 = .ok (.getfield 120, 3) := by decide +kernel
theorem dd_Xi_foreign_36 : decode bb_Xi_foreign 36 = .ok (.iconst 1, 1) := by decide +kernel
theorem dd_Xi_foreign_37 : decode bb_Xi_foreign 37 = .ok (.iload_n 1, 1) := by decide +kernel
theorem dd_Xi_foreign_38 : decode bb_Xi_foreign 38 = .ok (.ishl, 1) := by decide +kernel
theorem dd_Xi_foreign_39 : decode bb_Xi_foreign 39 = .ok (.ixor, 1) := by decide +kernel
theorem dd_Xi_foreign_40 : decode bb_Xi_foreign 40 = .ok (.putfield 120, 3) := by decide +kernel
theorem dd_Xi_foreign_43 : decode bb_Xi_foreign 43 = .ok (.iconst 1, 1) := by decide +kernel
theorem dd_Xi_foreign_44 : decode bb_Xi_foreign 44 = .ok (.ireturn, 1) := by decide +kernel
theorem dd_Xi_attest_0 : decode bb_Xi_attest 0 = .ok (.aload_n 0, 1) := by decide +kernel
theorem dd_Xi_attest_1 : decode bb_Xi_attest 1 = .ok (.getfield 19, 3) := by decide +kernel
theorem dd_Xi_attest_4 : decode bb_Xi_attest 4 = .ok (.iload_n 1, 1) := by decide +kernel
theorem dd_Xi_attest_5 : decode bb_Xi_attest 5 = .ok (.invokevirtual 98, 3) := by decide +kernel
theorem dd_Xi_attest_8 : decode bb_Xi_attest 8 = .ok (.ifCond .ne (7), 3) := by decide +kernel
theorem dd_Xi_attest_11 : decode bb_Xi_attest 11 = .ok (.sipush (-1001), 3) := by decide +kernel
theorem dd_Xi_attest_14 : decode bb_Xi_attest 14 = .ok (.ireturn, 1) := by decide +kernel
theorem dd_Xi_attest_15 : decode bb_Xi_attest 15 = .ok (.aload_n 0, 1) := by decide +kernel
theorem dd_Xi_attest_16 : decode bb_Xi_attest 16 = .ok (.getfield 19, 3) := by decide +kernel
theorem dd_Xi_attest_19 : decode bb_Xi_attest 19 = .ok (.iload_n 1, 1) := by decide +kernel
theorem dd_Xi_attest_20 : decode bb_Xi_attest 20 = .ok (.invokevirtual 102, 3) := by decide +kernel
theorem dd_Xi_attest_23 : decode bb_Xi_attest 23 = .ok (.ifCond .eq (13), 3) := by decide +kernel
theorem dd_Xi_attest_26 : decode bb_Xi_attest 26 = .ok (.iload_n 2, 1) := by decide +kernel
theorem dd_Xi_attest_27 : decode bb_Xi_attest 27 = .ok (.ifCond .lt (9), 3) := by decide +kernel
theorem dd_Xi_attest_30 : decode bb_Xi_attest 30 = .ok (.iload_n 2, 1) := by decide +kernel
theorem dd_Xi_attest_31 : decode bb_Xi_attest 31 = .ok (.ldc 108, 2) := by decide +kernel
theorem dd_Xi_attest_33 : decode bb_Xi_attest 33 = .ok (.if_icmp .le (7), 3) := by decide +kernel
theorem dd_Xi_attest_36 : decode bb_Xi_attest 36 = .ok (.sipush (-1002), 3) := by decide +kernel
theorem dd_Xi_attest_39 : decode bb_Xi_attest 39 = .ok (.ireturn, 1) := by decide +kernel
theorem dd_Xi_attest_40 : decode bb_Xi_attest 40 = .ok (.aload_n 0, 1) := by decide +kernel
theorem dd_Xi_attest_41 : decode bb_Xi_attest 41 = .ok (.iload_n 1, 1) := by decide +kernel
theorem dd_Xi_attest_42 : decode bb_Xi_attest 42 = .ok (.invokevirtual 124, 3) := by decide +kernel
theorem dd_Xi_attest_45 : decode bb_Xi_attest 45 = .ok (.istore_n 3, 1) := by decide +kernel
theorem dd_Xi_attest_46 : decode bb_Xi_attest 46 = .ok (.iload_n 3, 1) := by decide +kernel
theorem dd_Xi_attest_47 : decode bb_Xi_attest 47 = .ok (.iconst (-1), 1) := by decide +kernel
theorem dd_Xi_attest_48 : decode bb_Xi_attest 48 = .ok (.if_icmp .ne (10), 3) := by decide +kernel
theorem dd_Xi_attest_51 : decode bb_Xi_attest 51 = .ok (.aload_n 0, 1) := by decide +kernel
theorem dd_Xi_attest_52 : decode bb_Xi_attest 52 = .ok (.iload_n 1, 1) := by decide +kernel
theorem dd_Xi_attest_53 : decode bb_Xi_attest 53 = .ok (.iload_n 2, 1) := by decide +kernel
theorem dd_Xi_attest_54 : decode bb_Xi_attest 54 = .ok (.invokevirtual 128, 3) := by decide +kernel
theorem dd_Xi_attest_57 : decode bb_Xi_attest 57 = .ok (.ireturn, 1) := by decide +kernel
theorem dd_Xi_attest_58 : decode bb_Xi_attest 58 = .ok (.aload_n 0, 1) := by decide +kernel
theorem dd_Xi_attest_59 : decode bb_Xi_attest 59 = .ok (.getfield 33, 3) := by decide +kernel
theorem dd_Xi_attest_62 : decode bb_Xi_attest 62 = .ok (.iload_n 3, 1) := by decide +kernel
theorem dd_Xi_attest_63 : decode bb_Xi_attest 63 = .ok (.invokevirtual 131, 3) := by decide +kernel
theorem dd_Xi_attest_66 : decode bb_Xi_attest 66 = .ok (.checkcast 135, 3) := by decide +kernel
theorem dd_Xi_attest_69 : decode bb_Xi_attest 69 = .ok (.iload_n 2, 1) := by decide +kernel
theorem dd_Xi_attest_70 : decode bb_Xi_attest 70 = .ok (.invokevirtual 137, 3) := by decide +kernel
theorem dd_Xi_attest_73 : decode bb_Xi_attest 73 = .ok (.iload_n 3, 1) := by decide +kernel
theorem dd_Xi_attest_74 : decode bb_Xi_attest 74 = .ok (.ireturn, 1) := by decide +kernel
theorem dd_Xi_agentWith_0 : decode bb_Xi_agentWith 0 = .ok (.iconst 0, 1) := by decide +kernel
theorem dd_Xi_agentWith_1 : decode bb_Xi_agentWith 1 = .ok (.istore_n 2, 1) := by decide +kernel
theorem dd_Xi_agentWith_2 : decode bb_Xi_agentWith 2 = .ok (.iload_n 2, 1) := by decide +kernel
theorem dd_Xi_agentWith_3 : decode bb_Xi_agentWith 3 = .ok (.aload_n 0, 1) := by decide +kernel
theorem dd_Xi_agentWith_4 : decode bb_Xi_agentWith 4 = .ok (.getfield 33, 3) := by decide +kernel
theorem dd_Xi_agentWith_7 : decode bb_Xi_agentWith 7 = .ok (.invokevirtual 182, 3) := by decide +kernel
theorem dd_Xi_agentWith_10 : decode bb_Xi_agentWith 10 = .ok (.if_icmp .ge (29), 3) := by decide +kernel
theorem dd_Xi_agentWith_13 : decode bb_Xi_agentWith 13 = .ok (.aload_n 0, 1) := by decide +kernel
theorem dd_Xi_agentWith_14 : decode bb_Xi_agentWith 14 = .ok (.getfield 33, 3) := by decide +kernel
theorem dd_Xi_agentWith_17 : decode bb_Xi_agentWith 17 = .ok (.iload_n 2, 1) := by decide +kernel
theorem dd_Xi_agentWith_18 : decode bb_Xi_agentWith 18 = .ok (.invokevirtual 131, 3) := by decide +kernel
theorem dd_Xi_agentWith_21 : decode bb_Xi_agentWith 21 = .ok (.checkcast 135, 3) := by decide +kernel
theorem dd_Xi_agentWith_24 : decode bb_Xi_agentWith 24 = .ok (.getfield 283, 3) := by decide +kernel
theorem dd_Xi_agentWith_27 : decode bb_Xi_agentWith 27 = .ok (.iload_n 1, 1) := by decide +kernel
theorem dd_Xi_agentWith_28 : decode bb_Xi_agentWith 28 = .ok (.if_icmp .ne (5), 3) := by decide +kernel
theorem dd_Xi_agentWith_31 : decode bb_Xi_agentWith 31 = .ok (.iload_n 2, 1) := by decide +kernel
theorem dd_Xi_agentWith_32 : decode bb_Xi_agentWith 32 = .ok (.ireturn, 1) := by decide +kernel
theorem dd_Xi_agentWith_33 : decode bb_Xi_agentWith 33 = .ok (.iinc 2 (1), 3) := by decide +kernel
theorem dd_Xi_agentWith_36 : decode bb_Xi_agentWith 36 = .ok (.goto (-34), 3) := by decide +kernel
theorem dd_Xi_agentWith_39 : decode bb_Xi_agentWith 39 = .ok (.iconst (-1), 1) := by decide +kernel
theorem dd_Xi_agentWith_40 : decode bb_Xi_agentWith 40 = .ok (.ireturn, 1) := by decide +kernel
theorem dd_Xi_addAgent_0 : decode bb_Xi_addAgent 0 = .ok (.aload_n 0, 1) := by decide +kernel
theorem dd_Xi_addAgent_1 : decode bb_Xi_addAgent 1 = .ok (.getfield 33, 3) := by decide +kernel
theorem dd_Xi_addAgent_4 : decode bb_Xi_addAgent 4 = .ok (.invokevirtual 182, 3) := by decide +kernel
theorem dd_Xi_addAgent_7 : decode bb_Xi_addAgent 7 = .ok (.iconst 3, 1) := by decide +kernel
theorem dd_Xi_addAgent_8 : decode bb_Xi_addAgent 8 = .ok (.if_icmp .lt (7), 3) := by decide +kernel
theorem dd_Xi_addAgent_11 : decode bb_Xi_addAgent 11 = .ok (.sipush (-1003), 3) := by decide +kernel
theorem dd_Xi_addAgent_14 : decode bb_Xi_addAgent 14 = .ok (.ireturn, 1) := by decide +kernel
theorem dd_Xi_addAgent_15 : decode bb_Xi_addAgent 15 = .ok (.aload_n 0, 1) := by decide +kernel
theorem dd_Xi_addAgent_16 : decode bb_Xi_addAgent 16 = .ok (.getfield 33, 3) := by decide +kernel
theorem dd_Xi_addAgent_19 : decode bb_Xi_addAgent 19 = .ok (.new 135, 3) := by decide +kernel
theorem dd_Xi_addAgent_22 : decode bb_Xi_addAgent 22 = .ok (.dup, 1) := by decide +kernel
theorem dd_Xi_addAgent_23 : decode bb_Xi_addAgent 23 = .ok (.iload_n 1, 1) := by decide +kernel
theorem dd_Xi_addAgent_24 : decode bb_Xi_addAgent 24 = .ok (.iload_n 2, 1) := by decide +kernel
theorem dd_Xi_addAgent_25 : decode bb_Xi_addAgent 25 = .ok (.invokespecial 286, 3) := by decide +kernel
theorem dd_Xi_addAgent_28 : decode bb_Xi_addAgent 28 = .ok (.invokevirtual 189, 3) := by decide +kernel
theorem dd_Xi_addAgent_31 : decode bb_Xi_addAgent 31 = .ok (.pop, 1) := by decide +kernel
theorem dd_Xi_addAgent_32 : decode bb_Xi_addAgent 32 = .ok (.aload_n 0, 1) := by decide +kernel
theorem dd_Xi_addAgent_33 : decode bb_Xi_addAgent 33 = .ok (.getfield 33, 3) := by decide +kernel
theorem dd_Xi_addAgent_36 : decode bb_Xi_addAgent 36 = .ok (.invokevirtual 182, 3) := by decide +kernel
theorem dd_Xi_addAgent_39 : decode bb_Xi_addAgent 39 = .ok (.iconst 1, 1) := by decide +kernel
theorem dd_Xi_addAgent_40 : decode bb_Xi_addAgent 40 = .ok (.isub, 1) := by decide +kernel
theorem dd_Xi_addAgent_41 : decode bb_Xi_addAgent 41 = .ok (.ireturn, 1) := by decide +kernel
theorem dd_Xi_sync_0 : decode bb_Xi_sync 0 = .ok (.aload_n 0, 1) := by decide +kernel
theorem dd_Xi_sync_1 : decode bb_Xi_sync 1 = .ok (.iload_n 1, 1) := by decide +kernel
theorem dd_Xi_sync_2 : decode bb_Xi_sync 2 = .ok (.invokevirtual 140, 3) := by decide +kernel
theorem dd_Xi_sync_5 : decode bb_Xi_sync 5 = .ok (.ifCond .ne (7), 3) := by decide +kernel
theorem dd_Xi_sync_8 : decode bb_Xi_sync 8 = .ok (.sipush (-1001), 3) := by decide +kernel
theorem dd_Xi_sync_11 : decode bb_Xi_sync 11 = .ok (.ireturn, 1) := by decide +kernel
theorem dd_Xi_sync_12 : decode bb_Xi_sync 12 = .ok (.aload_n 0, 1) := by decide +kernel
theorem dd_Xi_sync_13 : decode bb_Xi_sync 13 = .ok (.getfield 33, 3) := by decide +kernel
theorem dd_Xi_sync_16 : decode bb_Xi_sync 16 = .ok (.iload_n 1, 1) := by decide +kernel
theorem dd_Xi_sync_17 : decode bb_Xi_sync 17 = .ok (.invokevirtual 131, 3) := by decide +kernel
theorem dd_Xi_sync_20 : decode bb_Xi_sync 20 = .ok (.checkcast 135, 3) := by decide +kernel
theorem dd_Xi_sync_23 : decode bb_Xi_sync 23 = .ok (.astore_n 2, 1) := by decide +kernel
theorem dd_Xi_sync_24 : decode bb_Xi_sync 24 = .ok (.aload_n 0, 1) := by decide +kernel
theorem dd_Xi_sync_25 : decode bb_Xi_sync 25 = .ok (.getfield 26, 3) := by decide +kernel
theorem dd_Xi_sync_28 : decode bb_Xi_sync 28 = .ok (.aload_n 2, 1) := by decide +kernel
theorem dd_Xi_sync_29 : decode bb_Xi_sync 29 = .ok (.invokevirtual 143, 3) := by decide +kernel
theorem dd_Xi_sync_32 : decode bb_Xi_sync 32 = .ok (.istore_n 3, 1) := by decide +kernel
theorem dd_Xi_sync_33 : decode bb_Xi_sync 33 = .ok (.aload_n 0, 1) := by decide +kernel
theorem dd_Xi_sync_34 : decode bb_Xi_sync 34 = .ok (.aload_n 2, 1) := by decide +kernel
theorem dd_Xi_sync_35 : decode bb_Xi_sync 35 = .ok (.iload_n 3, 1) := by decide +kernel
theorem dd_Xi_sync_36 : decode bb_Xi_sync 36 = .ok (.invokevirtual 147, 3) := by decide +kernel
theorem dd_Xi_sync_39 : decode bb_Xi_sync 39 = .ok (.istore 4, 2) := by decide +kernel
theorem dd_Xi_sync_41 : decode bb_Xi_sync 41 = .ok (.iload 4, 2) := by decide +kernel
theorem dd_Xi_sync_43 : decode bb_Xi_sync 43 = .ok (.ifCond .le (28), 3) := by decide +kernel
theorem dd_Xi_sync_46 : decode bb_Xi_sync 46 = .ok (.aload_n 0, 1) := by decide +kernel
theorem dd_Xi_sync_47 : decode bb_Xi_sync 47 = .ok (.getfield 81, 3) := by decide +kernel
theorem dd_Xi_sync_50 : decode bb_Xi_sync 50 = .ok (.aload_n 0, 1) := by decide +kernel
theorem dd_Xi_sync_51 : decode bb_Xi_sync 51 = .ok (.getfield 81, 3) := by decide +kernel
theorem dd_Xi_sync_54 : decode bb_Xi_sync 54 = .ok (.invokevirtual 151, 3) := by decide +kernel
theorem dd_Xi_sync_57 : decode bb_Xi_sync 57 = .ok (.aload_n 0, 1) := by decide +kernel
theorem dd_Xi_sync_58 : decode bb_Xi_sync 58 = .ok (.getfield 154, 3) := by decide +kernel
theorem dd_Xi_sync_61 : decode bb_Xi_sync 61 = .ok (.invokevirtual 157, 3) := by decide +kernel
theorem dd_Xi_sync_64 : decode bb_Xi_sync 64 = .ok (.ifCond .ne (7), 3) := by decide +kernel
theorem dd_Xi_sync_67 : decode bb_Xi_sync 67 = .ok (.sipush (-1005), 3) := by decide +kernel
theorem dd_Xi_sync_70 : decode bb_Xi_sync 70 = .ok (.ireturn, 1) := by decide +kernel
theorem dd_Xi_sync_71 : decode bb_Xi_sync 71 = .ok (.aload_n 0, 1) := by decide +kernel
theorem dd_Xi_sync_72 : decode bb_Xi_sync 72 = .ok (.aload_n 2, 1) := by decide +kernel
theorem dd_Xi_sync_73 : decode bb_Xi_sync 73 = .ok (.iload_n 3, 1) := by decide +kernel
theorem dd_Xi_sync_74 : decode bb_Xi_sync 74 = .ok (.invokevirtual 161, 3) := by decide +kernel
theorem dd_Xi_sync_77 : decode bb_Xi_sync 77 = .ok (.aload_n 2, 1) := by decide +kernel
theorem dd_Xi_sync_78 : decode bb_Xi_sync 78 = .ok (.aload_n 0, 1) := by decide +kernel
theorem dd_Xi_sync_79 : decode bb_Xi_sync 79 = .ok (.getfield 81, 3) := by decide +kernel
theorem dd_Xi_sync_82 : decode bb_Xi_sync 82 = .ok (.aload_n 0, 1) := by decide +kernel
theorem dd_Xi_sync_83 : decode bb_Xi_sync 83 = .ok (.getfield 154, 3) := by decide +kernel
theorem dd_Xi_sync_86 : decode bb_Xi_sync 86 = .ok (.invokevirtual 165, 3) := by decide +kernel
theorem dd_Xi_sync_89 : decode bb_Xi_sync 89 = .ok (.aload_n 0, 1) := by decide +kernel
theorem dd_Xi_sync_90 : decode bb_Xi_sync 90 = .ok (.getfield 81, 3) := by decide +kernel
theorem dd_Xi_sync_93 : decode bb_Xi_sync 93 = .ok (.invokevirtual 168, 3) := by decide +kernel
theorem dd_Xi_sync_96 : decode bb_Xi_sync 96 = .ok (.aload_n 0, 1) := by decide +kernel
theorem dd_Xi_sync_97 : decode bb_Xi_sync 97 = .ok (.getfield 120, 3) := by decide +kernel
theorem dd_Xi_sync_100 : decode bb_Xi_sync 100 = .ok (.invokevirtual 171, 3) := by decide +kernel
theorem dd_Xi_sync_103 : decode bb_Xi_sync 103 = .ok (.iload 4, 2) := by decide +kernel
theorem dd_Xi_sync_105 : decode bb_Xi_sync 105 = .ok (.ireturn, 1) := by decide +kernel
theorem dd_Xi_isAgent_0 : decode bb_Xi_isAgent 0 = .ok (.iload_n 1, 1) := by decide +kernel
theorem dd_Xi_isAgent_1 : decode bb_Xi_isAgent 1 = .ok (.ifCond .lt (18), 3) := by decide +kernel
theorem dd_Xi_isAgent_4 : decode bb_Xi_isAgent 4 = .ok (.iload_n 1, 1) := by decide +kernel
theorem dd_Xi_isAgent_5 : decode bb_Xi_isAgent 5 = .ok (.aload_n 0, 1) := by decide +kernel
theorem dd_Xi_isAgent_6 : decode bb_Xi_isAgent 6 = .ok (.getfield 33, 3) := by decide +kernel
theorem dd_Xi_isAgent_9 : decode bb_Xi_isAgent 9 = .ok (.invokevirtual 182, 3) := by decide +kernel
theorem dd_Xi_isAgent_12 : decode bb_Xi_isAgent 12 = .ok (.if_icmp .ge (7), 3) := by decide +kernel
theorem dd_Xi_isAgent_15 : decode bb_Xi_isAgent 15 = .ok (.iconst 1, 1) := by decide +kernel
theorem dd_Xi_isAgent_16 : decode bb_Xi_isAgent 16 = .ok (.goto (4), 3) := by decide +kernel
theorem dd_Xi_isAgent_19 : decode bb_Xi_isAgent 19 = .ok (.iconst 0, 1) := by decide +kernel
theorem dd_Xi_isAgent_20 : decode bb_Xi_isAgent 20 = .ok (.ireturn, 1) := by decide +kernel
theorem dd_Xi_countDue_0 : decode bb_Xi_countDue 0 = .ok (.iconst 0, 1) := by decide +kernel
theorem dd_Xi_countDue_1 : decode bb_Xi_countDue 1 = .ok (.istore_n 3, 1) := by decide +kernel
theorem dd_Xi_countDue_2 : decode bb_Xi_countDue 2 = .ok (.iconst 0, 1) := by decide +kernel
theorem dd_Xi_countDue_3 : decode bb_Xi_countDue 3 = .ok (.istore 4, 2) := by decide +kernel
theorem dd_Xi_countDue_5 : decode bb_Xi_countDue 5 = .ok (.iload 4, 2) := by decide +kernel
theorem dd_Xi_countDue_7 : decode bb_Xi_countDue 7 = .ok (.aload_n 0, 1) := by decide +kernel
theorem dd_Xi_countDue_8 : decode bb_Xi_countDue 8 = .ok (.getfield 26, 3) := by decide +kernel
theorem dd_Xi_countDue_11 : decode bb_Xi_countDue 11 = .ok (.invokevirtual 289, 3) := by decide +kernel
theorem dd_Xi_countDue_14 : decode bb_Xi_countDue 14 = .ok (.if_icmp .ge (45), 3) := by decide +kernel
theorem dd_Xi_countDue_17 : decode bb_Xi_countDue 17 = .ok (.aload_n 0, 1) := by decide +kernel
theorem dd_Xi_countDue_18 : decode bb_Xi_countDue 18 = .ok (.getfield 26, 3) := by decide +kernel
theorem dd_Xi_countDue_21 : decode bb_Xi_countDue 21 = .ok (.iload 4, 2) := by decide +kernel
theorem dd_Xi_countDue_23 : decode bb_Xi_countDue 23 = .ok (.invokevirtual 290, 3) := by decide +kernel
theorem dd_Xi_countDue_26 : decode bb_Xi_countDue 26 = .ok (.astore 5, 2) := by decide +kernel
theorem dd_Xi_countDue_28 : decode bb_Xi_countDue 28 = .ok (.aload 5, 2) := by decide +kernel
theorem dd_Xi_countDue_30 : decode bb_Xi_countDue 30 = .ok (.iload_n 2, 1) := by decide +kernel
theorem dd_Xi_countDue_31 : decode bb_Xi_countDue 31 = .ok (.invokevirtual 293, 3) := by decide +kernel
theorem dd_Xi_countDue_34 : decode bb_Xi_countDue 34 = .ok (.ifCond .eq (19), 3) := by decide +kernel
theorem dd_Xi_countDue_37 : decode bb_Xi_countDue 37 = .ok (.aload_n 1, 1) := by decide +kernel
theorem dd_Xi_countDue_38 : decode bb_Xi_countDue 38 = .ok (.aload 5, 2) := by decide +kernel
theorem dd_Xi_countDue_40 : decode bb_Xi_countDue 40 = .ok (.aload_n 0, 1) := by decide +kernel
theorem dd_Xi_countDue_41 : decode bb_Xi_countDue 41 = .ok (.getfield 154, 3) := by decide +kernel
theorem dd_Xi_countDue_44 : decode bb_Xi_countDue 44 = .ok (.invokevirtual 296, 3) := by decide +kernel
theorem dd_Xi_countDue_47 : decode bb_Xi_countDue 47 = .ok (.ifnonnull (6), 3) := by decide +kernel
theorem dd_Xi_countDue_50 : decode bb_Xi_countDue 50 = .ok (.iinc 3 (1), 3) := by decide +kernel
theorem dd_Xi_countDue_53 : decode bb_Xi_countDue 53 = .ok (.iinc 4 (1), 3) := by decide +kernel
theorem dd_Xi_countDue_56 : decode bb_Xi_countDue 56 = .ok (.goto (-51), 3) := by decide +kernel
theorem dd_Xi_countDue_59 : decode bb_Xi_countDue 59 = .ok (.iload_n 3, 1) := by decide +kernel
theorem dd_Xi_countDue_60 : decode bb_Xi_countDue 60 = .ok (.ireturn, 1) := by decide +kernel
theorem dd_Xi_renew_0 : decode bb_Xi_renew 0 = .ok (.aload_n 0, 1) := by decide +kernel
theorem dd_Xi_renew_1 : decode bb_Xi_renew 1 = .ok (.getfield 61, 3) := by decide +kernel
theorem dd_Xi_renew_4 : decode bb_Xi_renew 4 = .ok (.invokevirtual 300, 3) := by decide +kernel
theorem dd_Xi_renew_7 : decode bb_Xi_renew 7 = .ok (.iconst 0, 1) := by decide +kernel
theorem dd_Xi_renew_8 : decode bb_Xi_renew 8 = .ok (.istore_n 3, 1) := by decide +kernel
theorem dd_Xi_renew_9 : decode bb_Xi_renew 9 = .ok (.iload_n 3, 1) := by decide +kernel
theorem dd_Xi_renew_10 : decode bb_Xi_renew 10 = .ok (.aload_n 0, 1) := by decide +kernel
theorem dd_Xi_renew_11 : decode bb_Xi_renew 11 = .ok (.getfield 26, 3) := by decide +kernel
theorem dd_Xi_renew_14 : decode bb_Xi_renew 14 = .ok (.invokevirtual 289, 3) := by decide +kernel
theorem dd_Xi_renew_17 : decode bb_Xi_renew 17 = .ok (.if_icmp .ge (64), 3) := by decide +kernel
theorem dd_Xi_renew_20 : decode bb_Xi_renew 20 = .ok (.aload_n 0, 1) := by decide +kernel
theorem dd_Xi_renew_21 : decode bb_Xi_renew 21 = .ok (.getfield 26, 3) := by decide +kernel
theorem dd_Xi_renew_24 : decode bb_Xi_renew 24 = .ok (.iload_n 3, 1) := by decide +kernel
theorem dd_Xi_renew_25 : decode bb_Xi_renew 25 = .ok (.invokevirtual 290, 3) := by decide +kernel
theorem dd_Xi_renew_28 : decode bb_Xi_renew 28 = .ok (.astore 4, 2) := by decide +kernel
theorem dd_Xi_renew_30 : decode bb_Xi_renew 30 = .ok (.aload 4, 2) := by decide +kernel
theorem dd_Xi_renew_32 : decode bb_Xi_renew 32 = .ok (.iload_n 2, 1) := by decide +kernel
theorem dd_Xi_renew_33 : decode bb_Xi_renew 33 = .ok (.invokevirtual 293, 3) := by decide +kernel
theorem dd_Xi_renew_36 : decode bb_Xi_renew 36 = .ok (.ifCond .eq (39), 3) := by decide +kernel
theorem dd_Xi_renew_39 : decode bb_Xi_renew 39 = .ok (.aload_n 1, 1) := by decide +kernel
theorem dd_Xi_renew_40 : decode bb_Xi_renew 40 = .ok (.aload 4, 2) := by decide +kernel
theorem dd_Xi_renew_42 : decode bb_Xi_renew 42 = .ok (.aload_n 0, 1) := by decide +kernel
theorem dd_Xi_renew_43 : decode bb_Xi_renew 43 = .ok (.getfield 154, 3) := by decide +kernel
theorem dd_Xi_renew_46 : decode bb_Xi_renew 46 = .ok (.invokevirtual 296, 3) := by decide +kernel
theorem dd_Xi_renew_49 : decode bb_Xi_renew 49 = .ok (.astore 5, 2) := by decide +kernel
theorem dd_Xi_renew_51 : decode bb_Xi_renew 51 = .ok (.aload_n 0, 1) := by decide +kernel
theorem dd_Xi_renew_52 : decode bb_Xi_renew 52 = .ok (.getfield 61, 3) := by decide +kernel
theorem dd_Xi_renew_55 : decode bb_Xi_renew 55 = .ok (.aload 5, 2) := by decide +kernel
theorem dd_Xi_renew_57 : decode bb_Xi_renew 57 = .ok (.ifnonnull (12), 3) := by decide +kernel
theorem dd_Xi_renew_60 : decode bb_Xi_renew 60 = .ok (.aload_n 0, 1) := by decide +kernel
theorem dd_Xi_renew_61 : decode bb_Xi_renew 61 = .ok (.aload 4, 2) := by decide +kernel
theorem dd_Xi_renew_63 : decode bb_Xi_renew 63 = .ok (.invokevirtual 301, 3) := by decide +kernel
theorem dd_Xi_renew_66 : decode bb_Xi_renew 66 = .ok (.goto (5), 3) := by decide +kernel
theorem dd_Xi_renew_69 : decode bb_Xi_renew 69 = .ok (.aload 5, 2) := by decide +kernel
theorem dd_Xi_renew_71 : decode bb_Xi_renew 71 = .ok (.invokevirtual 189, 3) := by decide +kernel
theorem dd_Xi_renew_74 : decode bb_Xi_renew 74 = .ok (.pop, 1) := by decide +kernel
theorem dd_Xi_renew_75 : decode bb_Xi_renew 75 = .ok (.iinc 3 (1), 3) := by decide +kernel
theorem dd_Xi_renew_78 : decode bb_Xi_renew 78 = .ok (.goto (-69), 3) := by decide +kernel
theorem dd_Xi_renew_81 : decode bb_Xi_renew 81 = .ok (.aload_n 1, 1) := by decide +kernel
theorem dd_Xi_renew_82 : decode bb_Xi_renew 82 = .ok (.aload_n 0, 1) := by decide +kernel
theorem dd_Xi_renew_83 : decode bb_Xi_renew 83 = .ok (.getfield 61, 3) := by decide +kernel
theorem dd_Xi_renew_86 : decode bb_Xi_renew 86 = .ok (.invokevirtual 305, 3) := by decide +kernel
theorem dd_Xi_renew_89 : decode bb_Xi_renew 89 = .ok (.return_, 1) := by decide +kernel
theorem dd_Xi_issue_0 : decode bb_Xi_issue 0 = .ok (.aload_n 0, 1) := by decide +kernel
theorem dd_Xi_issue_1 : decode bb_Xi_issue 1 = .ok (.dup, 1) := by decide +kernel
theorem dd_Xi_issue_2 : decode bb_Xi_issue 2 = .ok (.getfield 309, 3) := by decide +kernel
theorem dd_Xi_issue_5 : decode bb_Xi_issue 5 = .ok (.iconst 1, 1) := by decide +kernel
theorem dd_Xi_issue_6 : decode bb_Xi_issue 6 = .ok (.iadd, 1) := by decide +kernel
theorem dd_Xi_issue_7 : decode bb_Xi_issue 7 = .ok (.putfield 309, 3) := by decide +kernel
theorem dd_Xi_issue_10 : decode bb_Xi_issue 10 = .ok (.aload_n 0, 1) := by decide +kernel
theorem dd_Xi_issue_11 : decode bb_Xi_issue 11 = .ok (.getfield 81, 3) := by decide +kernel
theorem dd_Xi_issue_14 : decode bb_Xi_issue 14 = .ok (.invokevirtual 151, 3) := by decide +kernel
theorem dd_Xi_issue_17 : decode bb_Xi_issue 17 = .ok (.istore_n 2, 1) := by decide +kernel
theorem dd_Xi_issue_18 : decode bb_Xi_issue 18 = .ok (.aload_n 0, 1) := by decide +kernel
theorem dd_Xi_issue_19 : decode bb_Xi_issue 19 = .ok (.getfield 154, 3) := by decide +kernel
theorem dd_Xi_issue_22 : decode bb_Xi_issue 22 = .ok (.aload_n 1, 1) := by decide +kernel
theorem dd_Xi_issue_23 : decode bb_Xi_issue 23 = .ok (.getfield 312, 3) := by decide +kernel
theorem dd_Xi_issue_26 : decode bb_Xi_issue 26 = .ok (.iadd, 1) := by decide +kernel
theorem dd_Xi_issue_27 : decode bb_Xi_issue 27 = .ok (.aload_n 0, 1) := by decide +kernel
theorem dd_Xi_issue_28 : decode bb_Xi_issue 28 = .ok (.getfield 81, 3) := by decide +kernel
theorem dd_Xi_issue_31 : decode bb_Xi_issue 31 = .ok (.iload_n 2, 1) := by decide +kernel
theorem dd_Xi_issue_32 : decode bb_Xi_issue 32 = .ok (.invokevirtual 315, 3) := by decide +kernel
theorem dd_Xi_issue_35 : decode bb_Xi_issue 35 = .ok (.invokestatic 69, 3) := by decide +kernel
theorem dd_Xi_issue_38 : decode bb_Xi_issue 38 = .ok (.istore_n 3, 1) := by decide +kernel
theorem dd_Xi_issue_39 : decode bb_Xi_issue 39 = .ok (.new 219, 3) := by decide +kernel
theorem dd_Xi_issue_42 : decode bb_Xi_issue 42 = .ok (.dup, 1) := by decide +kernel
theorem dd_Xi_issue_43 : decode bb_Xi_issue 43 = .ok (.aload_n 1, 1) := by decide +kernel
theorem dd_Xi_issue_44 : decode bb_Xi_issue 44 = .ok (.aload_n 0, 1) := by decide +kernel
theorem dd_Xi_issue_45 : decode bb_Xi_issue 45 = .ok (.getfield 309, 3) := by decide +kernel
theorem dd_Xi_issue_48 : decode bb_Xi_issue 48 = .ok (.iload_n 2, 1) := by decide +kernel
theorem dd_Xi_issue_49 : decode bb_Xi_issue 49 = .ok (.aload_n 0, 1) := by decide +kernel
theorem dd_Xi_issue_50 : decode bb_Xi_issue 50 = .ok (.getfield 154, 3) := by decide +kernel
theorem dd_Xi_issue_53 : decode bb_Xi_issue 53 = .ok (.iload_n 3, 1) := by decide +kernel
theorem dd_Xi_issue_54 : decode bb_Xi_issue 54 = .ok (.invokespecial 318, 3) := by decide +kernel
theorem dd_Xi_issue_57 : decode bb_Xi_issue 57 = .ok (.areturn, 1) := by decide +kernel
theorem dd_Xi_fetch_0 : decode bb_Xi_fetch 0 = .ok (.aload_n 0, 1) := by decide +kernel
theorem dd_Xi_fetch_1 : decode bb_Xi_fetch 1 = .ok (.iload_n 1, 1) := by decide +kernel
theorem dd_Xi_fetch_2 : decode bb_Xi_fetch 2 = .ok (.invokevirtual 140, 3) := by decide +kernel
theorem dd_Xi_fetch_5 : decode bb_Xi_fetch 5 = .ok (.ifCond .ne (7), 3) := by decide +kernel
theorem dd_Xi_fetch_8 : decode bb_Xi_fetch 8 = .ok (.sipush (-1001), 3) := by decide +kernel
theorem dd_Xi_fetch_11 : decode bb_Xi_fetch 11 = .ok (.ireturn, 1) := by decide +kernel
theorem dd_Xi_fetch_12 : decode bb_Xi_fetch 12 = .ok (.aload_n 0, 1) := by decide +kernel
theorem dd_Xi_fetch_13 : decode bb_Xi_fetch 13 = .ok (.getfield 43, 3) := by decide +kernel
theorem dd_Xi_fetch_16 : decode bb_Xi_fetch 16 = .ok (.aload_n 0, 1) := by decide +kernel
theorem dd_Xi_fetch_17 : decode bb_Xi_fetch 17 = .ok (.getfield 33, 3) := by decide +kernel
theorem dd_Xi_fetch_20 : decode bb_Xi_fetch 20 = .ok (.iload_n 1, 1) := by decide +kernel
theorem dd_Xi_fetch_21 : decode bb_Xi_fetch 21 = .ok (.invokevirtual 131, 3) := by decide +kernel
theorem dd_Xi_fetch_24 : decode bb_Xi_fetch 24 = .ok (.checkcast 135, 3) := by decide +kernel
theorem dd_Xi_fetch_27 : decode bb_Xi_fetch 27 = .ok (.iload_n 2, 1) := by decide +kernel
theorem dd_Xi_fetch_28 : decode bb_Xi_fetch 28 = .ok (.aload_n 0, 1) := by decide +kernel
theorem dd_Xi_fetch_29 : decode bb_Xi_fetch 29 = .ok (.getfield 154, 3) := by decide +kernel
theorem dd_Xi_fetch_32 : decode bb_Xi_fetch 32 = .ok (.invokevirtual 175, 3) := by decide +kernel
theorem dd_Xi_fetch_35 : decode bb_Xi_fetch 35 = .ok (.aload_n 0, 1) := by decide +kernel
theorem dd_Xi_fetch_36 : decode bb_Xi_fetch 36 = .ok (.getfield 43, 3) := by decide +kernel
theorem dd_Xi_fetch_39 : decode bb_Xi_fetch 39 = .ok (.invokevirtual 179, 3) := by decide +kernel
theorem dd_Xi_fetch_42 : decode bb_Xi_fetch 42 = .ok (.ireturn, 1) := by decide +kernel
theorem dd_Xi_watch_0 : decode bb_Xi_watch 0 = .ok (.aload_n 0, 1) := by decide +kernel
theorem dd_Xi_watch_1 : decode bb_Xi_watch 1 = .ok (.iload_n 1, 1) := by decide +kernel
theorem dd_Xi_watch_2 : decode bb_Xi_watch 2 = .ok (.invokevirtual 140, 3) := by decide +kernel
theorem dd_Xi_watch_5 : decode bb_Xi_watch 5 = .ok (.ifCond .ne (7), 3) := by decide +kernel
theorem dd_Xi_watch_8 : decode bb_Xi_watch 8 = .ok (.sipush (-1001), 3) := by decide +kernel
theorem dd_Xi_watch_11 : decode bb_Xi_watch 11 = .ok (.ireturn, 1) := by decide +kernel
theorem dd_Xi_watch_12 : decode bb_Xi_watch 12 = .ok (.aload_n 0, 1) := by decide +kernel
theorem dd_Xi_watch_13 : decode bb_Xi_watch 13 = .ok (.getfield 37, 3) := by decide +kernel
theorem dd_Xi_watch_16 : decode bb_Xi_watch 16 = .ok (.invokevirtual 182, 3) := by decide +kernel
theorem dd_Xi_watch_19 : decode bb_Xi_watch 19 = .ok (.iconst 4, 1) := by decide +kernel
theorem dd_Xi_watch_20 : decode bb_Xi_watch 20 = .ok (.if_icmp .lt (7), 3) := by decide +kernel
theorem dd_Xi_watch_23 : decode bb_Xi_watch 23 = .ok (.sipush (-1003), 3) := by decide +kernel
theorem dd_Xi_watch_26 : decode bb_Xi_watch 26 = .ok (.ireturn, 1) := by decide +kernel
theorem dd_Xi_watch_27 : decode bb_Xi_watch 27 = .ok (.aload_n 0, 1) := by decide +kernel
theorem dd_Xi_watch_28 : decode bb_Xi_watch 28 = .ok (.getfield 37, 3) := by decide +kernel
theorem dd_Xi_watch_31 : decode bb_Xi_watch 31 = .ok (.new 185, 3) := by decide +kernel
theorem dd_Xi_watch_34 : decode bb_Xi_watch 34 = .ok (.dup, 1) := by decide +kernel
theorem dd_Xi_watch_35 : decode bb_Xi_watch 35 = .ok (.aload_n 0, 1) := by decide +kernel
theorem dd_Xi_watch_36 : decode bb_Xi_watch 36 = .ok (.getfield 33, 3) := by decide +kernel
theorem dd_Xi_watch_39 : decode bb_Xi_watch 39 = .ok (.iload_n 1, 1) := by decide +kernel
theorem dd_Xi_watch_40 : decode bb_Xi_watch 40 = .ok (.invokevirtual 131, 3) := by decide +kernel
theorem dd_Xi_watch_43 : decode bb_Xi_watch 43 = .ok (.checkcast 135, 3) := by decide +kernel
theorem dd_Xi_watch_46 : decode bb_Xi_watch 46 = .ok (.iload_n 2, 1) := by decide +kernel
theorem dd_Xi_watch_47 : decode bb_Xi_watch 47 = .ok (.invokespecial 187, 3) := by decide +kernel
theorem dd_Xi_watch_50 : decode bb_Xi_watch 50 = .ok (.invokevirtual 189, 3) := by decide +kernel
theorem dd_Xi_watch_53 : decode bb_Xi_watch 53 = .ok (.pop, 1) := by decide +kernel
theorem dd_Xi_watch_54 : decode bb_Xi_watch 54 = .ok (.aload_n 0, 1) := by decide +kernel
theorem dd_Xi_watch_55 : decode bb_Xi_watch 55 = .ok (.getfield 37, 3) := by decide +kernel
theorem dd_Xi_watch_58 : decode bb_Xi_watch 58 = .ok (.invokevirtual 182, 3) := by decide +kernel
theorem dd_Xi_watch_61 : decode bb_Xi_watch 61 = .ok (.iconst 1, 1) := by decide +kernel
theorem dd_Xi_watch_62 : decode bb_Xi_watch 62 = .ok (.isub, 1) := by decide +kernel
theorem dd_Xi_watch_63 : decode bb_Xi_watch 63 = .ok (.ireturn, 1) := by decide +kernel
theorem dd_Xi_poll_0 : decode bb_Xi_poll 0 = .ok (.iload_n 1, 1) := by decide +kernel
theorem dd_Xi_poll_1 : decode bb_Xi_poll 1 = .ok (.ifCond .lt (14), 3) := by decide +kernel
theorem dd_Xi_poll_4 : decode bb_Xi_poll 4 = .ok (.iload_n 1, 1) := by decide +kernel
theorem dd_Xi_poll_5 : decode bb_Xi_poll 5 = .ok (.aload_n 0, 1) := by decide +kernel
theorem dd_Xi_poll_6 : decode bb_Xi_poll 6 = .ok (.getfield 37, 3) := by decide +kernel
theorem dd_Xi_poll_9 : decode bb_Xi_poll 9 = .ok (.invokevirtual 182, 3) := by decide +kernel
theorem dd_Xi_poll_12 : decode bb_Xi_poll 12 = .ok (.if_icmp .lt (7), 3) := by decide +kernel
theorem dd_Xi_poll_15 : decode bb_Xi_poll 15 = .ok (.sipush (-1001), 3) := by decide +kernel
theorem dd_Xi_poll_18 : decode bb_Xi_poll 18 = .ok (.ireturn, 1) := by decide +kernel
theorem dd_Xi_poll_19 : decode bb_Xi_poll 19 = .ok (.aload_n 0, 1) := by decide +kernel
theorem dd_Xi_poll_20 : decode bb_Xi_poll 20 = .ok (.getfield 37, 3) := by decide +kernel
theorem dd_Xi_poll_23 : decode bb_Xi_poll 23 = .ok (.iload_n 1, 1) := by decide +kernel
theorem dd_Xi_poll_24 : decode bb_Xi_poll 24 = .ok (.invokevirtual 131, 3) := by decide +kernel
theorem dd_Xi_poll_27 : decode bb_Xi_poll 27 = .ok (.checkcast 185, 3) := by decide +kernel
theorem dd_Xi_poll_30 : decode bb_Xi_poll 30 = .ok (.astore_n 2, 1) := by decide +kernel
theorem dd_Xi_poll_31 : decode bb_Xi_poll 31 = .ok (.aload_n 0, 1) := by decide +kernel
theorem dd_Xi_poll_32 : decode bb_Xi_poll 32 = .ok (.getfield 64, 3) := by decide +kernel
theorem dd_Xi_poll_35 : decode bb_Xi_poll 35 = .ok (.aload_n 2, 1) := by decide +kernel
theorem dd_Xi_poll_36 : decode bb_Xi_poll 36 = .ok (.getfield 193, 3) := by decide +kernel
theorem dd_Xi_poll_39 : decode bb_Xi_poll 39 = .ok (.aload_n 2, 1) := by decide +kernel
theorem dd_Xi_poll_40 : decode bb_Xi_poll 40 = .ok (.getfield 197, 3) := by decide +kernel
theorem dd_Xi_poll_43 : decode bb_Xi_poll 43 = .ok (.aload_n 0, 1) := by decide +kernel
theorem dd_Xi_poll_44 : decode bb_Xi_poll 44 = .ok (.getfield 154, 3) := by decide +kernel
theorem dd_Xi_poll_47 : decode bb_Xi_poll 47 = .ok (.invokevirtual 175, 3) := by decide +kernel
theorem dd_Xi_poll_50 : decode bb_Xi_poll 50 = .ok (.aload_n 2, 1) := by decide +kernel
theorem dd_Xi_poll_51 : decode bb_Xi_poll 51 = .ok (.aload_n 0, 1) := by decide +kernel
theorem dd_Xi_poll_52 : decode bb_Xi_poll 52 = .ok (.getfield 64, 3) := by decide +kernel
theorem dd_Xi_poll_55 : decode bb_Xi_poll 55 = .ok (.invokevirtual 200, 3) := by decide +kernel
theorem dd_Xi_poll_58 : decode bb_Xi_poll 58 = .ok (.ifCond .eq (5), 3) := by decide +kernel
theorem dd_Xi_poll_61 : decode bb_Xi_poll 61 = .ok (.iconst 0, 1) := by decide +kernel
theorem dd_Xi_poll_62 : decode bb_Xi_poll 62 = .ok (.ireturn, 1) := by decide +kernel
theorem dd_Xi_poll_63 : decode bb_Xi_poll 63 = .ok (.aload_n 2, 1) := by decide +kernel
theorem dd_Xi_poll_64 : decode bb_Xi_poll 64 = .ok (.aload_n 0, 1) := by decide +kernel
theorem dd_Xi_poll_65 : decode bb_Xi_poll 65 = .ok (.getfield 64, 3) := by decide +kernel
theorem dd_Xi_poll_68 : decode bb_Xi_poll 68 = .ok (.invokevirtual 204, 3) := by decide +kernel
theorem dd_Xi_poll_71 : decode bb_Xi_poll 71 = .ok (.aload_n 0, 1) := by decide +kernel
theorem dd_Xi_poll_72 : decode bb_Xi_poll 72 = .ok (.getfield 43, 3) := by decide +kernel
theorem dd_Xi_poll_75 : decode bb_Xi_poll 75 = .ok (.aload_n 0, 1) := by decide +kernel
theorem dd_Xi_poll_76 : decode bb_Xi_poll 76 = .ok (.getfield 64, 3) := by decide +kernel
theorem dd_Xi_poll_79 : decode bb_Xi_poll 79 = .ok (.invokevirtual 208, 3) := by decide +kernel
theorem dd_Xi_poll_82 : decode bb_Xi_poll 82 = .ok (.aload_n 0, 1) := by decide +kernel
theorem dd_Xi_poll_83 : decode bb_Xi_poll 83 = .ok (.getfield 64, 3) := by decide +kernel
theorem dd_Xi_poll_86 : decode bb_Xi_poll 86 = .ok (.invokevirtual 179, 3) := by decide +kernel
theorem dd_Xi_poll_89 : decode bb_Xi_poll 89 = .ok (.ireturn, 1) := by decide +kernel
theorem dd_Xi_svid_0 : decode bb_Xi_svid 0 = .ok (.aload_n 0, 1) := by decide +kernel
theorem dd_Xi_svid_1 : decode bb_Xi_svid 1 = .ok (.getfield 43, 3) := by decide +kernel
theorem dd_Xi_svid_4 : decode bb_Xi_svid 4 = .ok (.iload_n 1, 1) := by decide +kernel
theorem dd_Xi_svid_5 : decode bb_Xi_svid 5 = .ok (.invokevirtual 211, 3) := by decide +kernel
theorem dd_Xi_svid_8 : decode bb_Xi_svid 8 = .ok (.ifCond .ne (7), 3) := by decide +kernel
theorem dd_Xi_svid_11 : decode bb_Xi_svid 11 = .ok (.sipush (-1001), 3) := by decide +kernel
theorem dd_Xi_svid_14 : decode bb_Xi_svid 14 = .ok (.ireturn, 1) := by decide +kernel
theorem dd_Xi_svid_15 : decode bb_Xi_svid 15 = .ok (.aload_n 0, 1) := by decide +kernel
theorem dd_Xi_svid_16 : decode bb_Xi_svid 16 = .ok (.getfield 43, 3) := by decide +kernel
theorem dd_Xi_svid_19 : decode bb_Xi_svid 19 = .ok (.iload_n 1, 1) := by decide +kernel
theorem dd_Xi_svid_20 : decode bb_Xi_svid 20 = .ok (.invokevirtual 214, 3) := by decide +kernel
theorem dd_Xi_svid_23 : decode bb_Xi_svid 23 = .ok (.astore_n 3, 1) := by decide +kernel
theorem dd_Xi_svid_24 : decode bb_Xi_svid 24 = .ok (.iload_n 2, 1) := by decide +kernel
theorem dd_Xi_svid_25 : decode bb_Xi_svid 25 = .ok (.tableswitch (63) (0) (4) #[35, 43, 48, 53, 58], 35) := by decide +kernel
theorem dd_Xi_svid_60 : decode bb_Xi_svid 60 = .ok (.aload_n 3, 1) := by decide +kernel
theorem dd_Xi_svid_61 : decode bb_Xi_svid 61 = .ok (.getfield 218, 3) := by decide +kernel
theorem dd_Xi_svid_64 : decode bb_Xi_svid 64 = .ok (.getfield 224, 3) := by decide +kernel
theorem dd_Xi_svid_67 : decode bb_Xi_svid 67 = .ok (.ireturn, 1) := by decide +kernel
theorem dd_Xi_svid_68 : decode bb_Xi_svid 68 = .ok (.aload_n 3, 1) := by decide +kernel
theorem dd_Xi_svid_69 : decode bb_Xi_svid 69 = .ok (.getfield 229, 3) := by decide +kernel
theorem dd_Xi_svid_72 : decode bb_Xi_svid 72 = .ok (.ireturn, 1) := by decide +kernel
theorem dd_Xi_svid_73 : decode bb_Xi_svid 73 = .ok (.aload_n 3, 1) := by decide +kernel
theorem dd_Xi_svid_74 : decode bb_Xi_svid 74 = .ok (.getfield 232, 3) := by decide +kernel
theorem dd_Xi_svid_77 : decode bb_Xi_svid 77 = .ok (.ireturn, 1) := by decide +kernel
theorem dd_Xi_svid_78 : decode bb_Xi_svid 78 = .ok (.aload_n 3, 1) := by decide +kernel
theorem dd_Xi_svid_79 : decode bb_Xi_svid 79 = .ok (.getfield 235, 3) := by decide +kernel
theorem dd_Xi_svid_82 : decode bb_Xi_svid 82 = .ok (.ireturn, 1) := by decide +kernel
theorem dd_Xi_svid_83 : decode bb_Xi_svid 83 = .ok (.aload_n 3, 1) := by decide +kernel
theorem dd_Xi_svid_84 : decode bb_Xi_svid 84 = .ok (.getfield 238, 3) := by decide +kernel
theorem dd_Xi_svid_87 : decode bb_Xi_svid 87 = .ok (.ireturn, 1) := by decide +kernel
theorem dd_Xi_svid_88 : decode bb_Xi_svid 88 = .ok (.sipush (-1001), 3) := by decide +kernel
theorem dd_Xi_svid_91 : decode bb_Xi_svid 91 = .ok (.ireturn, 1) := by decide +kernel
theorem dd_Xi_key_0 : decode bb_Xi_key 0 = .ok (.iload_n 1, 1) := by decide +kernel
theorem dd_Xi_key_1 : decode bb_Xi_key 1 = .ok (.ifCond .lt (26), 3) := by decide +kernel
theorem dd_Xi_key_4 : decode bb_Xi_key 4 = .ok (.iload_n 1, 1) := by decide +kernel
theorem dd_Xi_key_5 : decode bb_Xi_key 5 = .ok (.aload_n 0, 1) := by decide +kernel
theorem dd_Xi_key_6 : decode bb_Xi_key 6 = .ok (.getfield 43, 3) := by decide +kernel
theorem dd_Xi_key_9 : decode bb_Xi_key 9 = .ok (.invokevirtual 241, 3) := by decide +kernel
theorem dd_Xi_key_12 : decode bb_Xi_key 12 = .ok (.if_icmp .ge (15), 3) := by decide +kernel
theorem dd_Xi_key_15 : decode bb_Xi_key 15 = .ok (.aload_n 0, 1) := by decide +kernel
theorem dd_Xi_key_16 : decode bb_Xi_key 16 = .ok (.getfield 43, 3) := by decide +kernel
theorem dd_Xi_key_19 : decode bb_Xi_key 19 = .ok (.getfield 244, 3) := by decide +kernel
theorem dd_Xi_key_22 : decode bb_Xi_key 22 = .ok (.iload_n 1, 1) := by decide +kernel
theorem dd_Xi_key_23 : decode bb_Xi_key 23 = .ok (.iadd, 1) := by decide +kernel
theorem dd_Xi_key_24 : decode bb_Xi_key 24 = .ok (.goto (6), 3) := by decide +kernel
theorem dd_Xi_key_27 : decode bb_Xi_key 27 = .ok (.sipush (-1001), 3) := by decide +kernel
theorem dd_Xi_key_30 : decode bb_Xi_key 30 = .ok (.ireturn, 1) := by decide +kernel
theorem dd_Xi_friends_0 : decode bb_Xi_friends 0 = .ok (.aload_n 0, 1) := by decide +kernel
theorem dd_Xi_friends_1 : decode bb_Xi_friends 1 = .ok (.getfield 43, 3) := by decide +kernel
theorem dd_Xi_friends_4 : decode bb_Xi_friends 4 = .ok (.getfield 247, 3) := by decide +kernel
theorem dd_Xi_friends_7 : decode bb_Xi_friends 7 = .ok (.ireturn, 1) := by decide +kernel
theorem dd_Xi_written_0 : decode bb_Xi_written 0 = .ok (.aload_n 0, 1) := by decide +kernel
theorem dd_Xi_written_1 : decode bb_Xi_written 1 = .ok (.getfield 43, 3) := by decide +kernel
theorem dd_Xi_written_4 : decode bb_Xi_written 4 = .ok (.iload_n 1, 1) := by decide +kernel
theorem dd_Xi_written_5 : decode bb_Xi_written 5 = .ok (.invokevirtual 211, 3) := by decide +kernel
theorem dd_Xi_written_8 : decode bb_Xi_written 8 = .ok (.ifCond .ne (7), 3) := by decide +kernel
theorem dd_Xi_written_11 : decode bb_Xi_written 11 = .ok (.sipush (-1001), 3) := by decide +kernel
theorem dd_Xi_written_14 : decode bb_Xi_written 14 = .ok (.ireturn, 1) := by decide +kernel
theorem dd_Xi_written_15 : decode bb_Xi_written 15 = .ok (.aload_n 0, 1) := by decide +kernel
theorem dd_Xi_written_16 : decode bb_Xi_written 16 = .ok (.getfield 57, 3) := by decide +kernel
theorem dd_Xi_written_19 : decode bb_Xi_written 19 = .ok (.aload_n 0, 1) := by decide +kernel
theorem dd_Xi_written_20 : decode bb_Xi_written 20 = .ok (.getfield 43, 3) := by decide +kernel
theorem dd_Xi_written_23 : decode bb_Xi_written 23 = .ok (.iload_n 1, 1) := by decide +kernel
theorem dd_Xi_written_24 : decode bb_Xi_written 24 = .ok (.invokevirtual 214, 3) := by decide +kernel
theorem dd_Xi_written_27 : decode bb_Xi_written 27 = .ok (.aload_n 0, 1) := by decide +kernel
theorem dd_Xi_written_28 : decode bb_Xi_written 28 = .ok (.getfield 19, 3) := by decide +kernel
theorem dd_Xi_written_31 : decode bb_Xi_written 31 = .ok (.invokevirtual 250, 3) := by decide +kernel
theorem dd_Xi_written_34 : decode bb_Xi_written 34 = .ok (.iload_n 2, 1) := by decide +kernel
theorem dd_Xi_written_35 : decode bb_Xi_written 35 = .ok (.invokevirtual 254, 3) := by decide +kernel
theorem dd_Xi_written_38 : decode bb_Xi_written 38 = .ok (.istore_n 3, 1) := by decide +kernel
theorem dd_Xi_written_39 : decode bb_Xi_written 39 = .ok (.iload_n 3, 1) := by decide +kernel
theorem dd_Xi_written_40 : decode bb_Xi_written 40 = .ok (.iconst (-1), 1) := by decide +kernel
theorem dd_Xi_written_41 : decode bb_Xi_written 41 = .ok (.if_icmp .ne (9), 3) := by decide +kernel
theorem dd_Xi_written_44 : decode bb_Xi_written 44 = .ok (.sipush (-1001), 3) := by decide +kernel
theorem dd_Xi_written_47 : decode bb_Xi_written 47 = .ok (.goto (4), 3) := by decide +kernel
theorem dd_Xi_written_50 : decode bb_Xi_written 50 = .ok (.iload_n 3, 1) := by decide +kernel
theorem dd_Xi_written_51 : decode bb_Xi_written 51 = .ok (.ireturn, 1) := by decide +kernel
theorem dd_Xi_verify_0 : decode bb_Xi_verify 0 = .ok (.aload_n 0, 1) := by decide +kernel
theorem dd_Xi_verify_1 : decode bb_Xi_verify 1 = .ok (.getfield 50, 3) := by decide +kernel
theorem dd_Xi_verify_4 : decode bb_Xi_verify 4 = .ok (.aload_n 0, 1) := by decide +kernel
theorem dd_Xi_verify_5 : decode bb_Xi_verify 5 = .ok (.getfield 10, 3) := by decide +kernel
theorem dd_Xi_verify_8 : decode bb_Xi_verify 8 = .ok (.invokevirtual 257, 3) := by decide +kernel
theorem dd_Xi_verify_11 : decode bb_Xi_verify 11 = .ok (.aload_n 0, 1) := by decide +kernel
theorem dd_Xi_verify_12 : decode bb_Xi_verify 12 = .ok (.invokevirtual 261, 3) := by decide +kernel
theorem dd_Xi_verify_15 : decode bb_Xi_verify 15 = .ok (.istore_n 1, 1) := by decide +kernel
theorem dd_Xi_verify_16 : decode bb_Xi_verify 16 = .ok (.aload_n 0, 1) := by decide +kernel
theorem dd_Xi_verify_17 : decode bb_Xi_verify 17 = .ok (.getfield 10, 3) := by decide +kernel
theorem dd_Xi_verify_20 : decode bb_Xi_verify 20 = .ok (.invokevirtual 95, 3) := by decide +kernel
theorem dd_Xi_verify_23 : decode bb_Xi_verify 23 = .ok (.iload_n 1, 1) := by decide +kernel
theorem dd_Xi_verify_24 : decode bb_Xi_verify 24 = .ok (.ireturn, 1) := by decide +kernel
theorem dd_Xi_judge_0 : decode bb_Xi_judge 0 = .ok (.aload_n 0, 1) := by decide +kernel
theorem dd_Xi_judge_1 : decode bb_Xi_judge 1 = .ok (.getfield 50, 3) := by decide +kernel
theorem dd_Xi_judge_4 : decode bb_Xi_judge 4 = .ok (.getfield 321, 3) := by decide +kernel
theorem dd_Xi_judge_7 : decode bb_Xi_judge 7 = .ok (.iconst (-1), 1) := by decide +kernel
theorem dd_Xi_judge_8 : decode bb_Xi_judge 8 = .ok (.if_icmp .eq (13), 3) := by decide +kernel
theorem dd_Xi_judge_11 : decode bb_Xi_judge 11 = .ok (.iconst (-1), 1) := by decide +kernel
theorem dd_Xi_judge_12 : decode bb_Xi_judge 12 = .ok (.aload_n 0, 1) := by decide +kernel
theorem dd_Xi_judge_13 : decode bb_Xi_judge 13 = .ok (.getfield 50, 3) := by decide +kernel
theorem dd_Xi_judge_16 : decode bb_Xi_judge 16 = .ok (.getfield 321, 3) := by decide +kernel
theorem dd_Xi_judge_19 : decode bb_Xi_judge 19 = .ok (.isub, 1) := by decide +kernel
theorem dd_Xi_judge_20 : decode bb_Xi_judge 20 = .ok (.ireturn, 1) := by decide +kernel
theorem dd_Xi_judge_21 : decode bb_Xi_judge 21 = .ok (.aload_n 0, 1) := by decide +kernel
theorem dd_Xi_judge_22 : decode bb_Xi_judge 22 = .ok (.getfield 81, 3) := by decide +kernel
theorem dd_Xi_judge_25 : decode bb_Xi_judge 25 = .ok (.aload_n 0, 1) := by decide +kernel
theorem dd_Xi_judge_26 : decode bb_Xi_judge 26 = .ok (.getfield 50, 3) := by decide +kernel
theorem dd_Xi_judge_29 : decode bb_Xi_judge 29 = .ok (.getfield 324, 3) := by decide +kernel
theorem dd_Xi_judge_32 : decode bb_Xi_judge 32 = .ok (.aload_n 0, 1) := by decide +kernel
theorem dd_Xi_judge_33 : decode bb_Xi_judge 33 = .ok (.getfield 154, 3) := by decide +kernel
theorem dd_Xi_judge_36 : decode bb_Xi_judge 36 = .ok (.invokevirtual 157, 3) := by decide +kernel
theorem dd_Xi_judge_39 : decode bb_Xi_judge 39 = .ok (.ifCond .ne (7), 3) := by decide +kernel
theorem dd_Xi_judge_42 : decode bb_Xi_judge 42 = .ok (.sipush (-1006), 3) := by decide +kernel
theorem dd_Xi_judge_45 : decode bb_Xi_judge 45 = .ok (.ireturn, 1) := by decide +kernel
theorem dd_Xi_judge_46 : decode bb_Xi_judge 46 = .ok (.aload_n 0, 1) := by decide +kernel
theorem dd_Xi_judge_47 : decode bb_Xi_judge 47 = .ok (.getfield 10, 3) := by decide +kernel
theorem dd_Xi_judge_50 : decode bb_Xi_judge 50 = .ok (.iconst 2, 1) := by decide +kernel
theorem dd_Xi_judge_51 : decode bb_Xi_judge 51 = .ok (.aload_n 0, 1) := by decide +kernel
theorem dd_Xi_judge_52 : decode bb_Xi_judge 52 = .ok (.getfield 50, 3) := by decide +kernel
theorem dd_Xi_judge_55 : decode bb_Xi_judge 55 = .ok (.getfield 325, 3) := by decide +kernel
theorem dd_Xi_judge_58 : decode bb_Xi_judge 58 = .ok (.invokevirtual 328, 3) := by decide +kernel
theorem dd_Xi_judge_61 : decode bb_Xi_judge 61 = .ok (.istore_n 1, 1) := by decide +kernel
theorem dd_Xi_judge_62 : decode bb_Xi_judge 62 = .ok (.aload_n 0, 1) := by decide +kernel
theorem dd_Xi_judge_63 : decode bb_Xi_judge 63 = .ok (.getfield 50, 3) := by decide +kernel
theorem dd_Xi_judge_66 : decode bb_Xi_judge 66 = .ok (.getfield 331, 3) := by decide +kernel
theorem dd_Xi_judge_69 : decode bb_Xi_judge 69 = .ok (.iload_n 1, 1) := by decide +kernel
theorem dd_Xi_judge_70 : decode bb_Xi_judge 70 = .ok (.aload_n 0, 1) := by decide +kernel
theorem dd_Xi_judge_71 : decode bb_Xi_judge 71 = .ok (.getfield 50, 3) := by decide +kernel
theorem dd_Xi_judge_74 : decode bb_Xi_judge 74 = .ok (.getfield 324, 3) := by decide +kernel
theorem dd_Xi_judge_77 : decode bb_Xi_judge 77 = .ok (.invokestatic 334, 3) := by decide +kernel
theorem dd_Xi_judge_80 : decode bb_Xi_judge 80 = .ok (.ifCond .ne (7), 3) := by decide +kernel
theorem dd_Xi_judge_83 : decode bb_Xi_judge 83 = .ok (.sipush (-1007), 3) := by decide +kernel
theorem dd_Xi_judge_86 : decode bb_Xi_judge 86 = .ok (.ireturn, 1) := by decide +kernel
theorem dd_Xi_judge_87 : decode bb_Xi_judge 87 = .ok (.aload_n 0, 1) := by decide +kernel
theorem dd_Xi_judge_88 : decode bb_Xi_judge 88 = .ok (.getfield 154, 3) := by decide +kernel
theorem dd_Xi_judge_91 : decode bb_Xi_judge 91 = .ok (.aload_n 0, 1) := by decide +kernel
theorem dd_Xi_judge_92 : decode bb_Xi_judge 92 = .ok (.getfield 50, 3) := by decide +kernel
theorem dd_Xi_judge_95 : decode bb_Xi_judge 95 = .ok (.getfield 338, 3) := by decide +kernel
theorem dd_Xi_judge_98 : decode bb_Xi_judge 98 = .ok (.if_icmp .lt (17), 3) := by decide +kernel
theorem dd_Xi_judge_101 : decode bb_Xi_judge 101 = .ok (.aload_n 0, 1) := by decide +kernel
theorem dd_Xi_judge_102 : decode bb_Xi_judge 102 = .ok (.getfield 154, 3) := by decide +kernel
theorem dd_Xi_judge_105 : decode bb_Xi_judge 105 = .ok (.aload_n 0, 1) := by decide +kernel
theorem dd_Xi_judge_106 : decode bb_Xi_judge 106 = .ok (.getfield 50, 3) := by decide +kernel
theorem dd_Xi_judge_109 : decode bb_Xi_judge 109 = .ok (.getfield 339, 3) := by decide +kernel
theorem dd_Xi_judge_112 : decode bb_Xi_judge 112 = .ok (.if_icmp .lt (7), 3) := by decide +kernel
theorem dd_Xi_judge_115 : decode bb_Xi_judge 115 = .ok (.sipush (-1005), 3) := by decide +kernel
theorem dd_Xi_judge_118 : decode bb_Xi_judge 118 = .ok (.ireturn, 1) := by decide +kernel
theorem dd_Xi_judge_119 : decode bb_Xi_judge 119 = .ok (.aload_n 0, 1) := by decide +kernel
theorem dd_Xi_judge_120 : decode bb_Xi_judge 120 = .ok (.getfield 50, 3) := by decide +kernel
theorem dd_Xi_judge_123 : decode bb_Xi_judge 123 = .ok (.getfield 340, 3) := by decide +kernel
theorem dd_Xi_judge_126 : decode bb_Xi_judge 126 = .ok (.ireturn, 1) := by decide +kernel
theorem dd_Xi_prepare_0 : decode bb_Xi_prepare 0 = .ok (.aload_n 0, 1) := by decide +kernel
theorem dd_Xi_prepare_1 : decode bb_Xi_prepare 1 = .ok (.getfield 81, 3) := by decide +kernel
theorem dd_Xi_prepare_4 : decode bb_Xi_prepare 4 = .ok (.aload_n 0, 1) := by decide +kernel
theorem dd_Xi_prepare_5 : decode bb_Xi_prepare 5 = .ok (.getfield 154, 3) := by decide +kernel
theorem dd_Xi_prepare_8 : decode bb_Xi_prepare 8 = .ok (.invokevirtual 264, 3) := by decide +kernel
theorem dd_Xi_prepare_11 : decode bb_Xi_prepare 11 = .ok (.ifCond .eq (17), 3) := by decide +kernel
theorem dd_Xi_prepare_14 : decode bb_Xi_prepare 14 = .ok (.aload_n 0, 1) := by decide +kernel
theorem dd_Xi_prepare_15 : decode bb_Xi_prepare 15 = .ok (.getfield 81, 3) := by decide +kernel
theorem dd_Xi_prepare_18 : decode bb_Xi_prepare 18 = .ok (.aload_n 0, 1) := by decide +kernel
theorem dd_Xi_prepare_19 : decode bb_Xi_prepare 19 = .ok (.getfield 154, 3) := by decide +kernel
theorem dd_Xi_prepare_22 : decode bb_Xi_prepare 22 = .ok (.invokevirtual 267, 3) := by decide +kernel
theorem dd_Xi_prepare_25 : decode bb_Xi_prepare 25 = .ok (.goto (6), 3) := by decide +kernel
theorem dd_Xi_prepare_28 : decode bb_Xi_prepare 28 = .ok (.sipush (-1003), 3) := by decide +kernel
theorem dd_Xi_prepare_31 : decode bb_Xi_prepare 31 = .ok (.ireturn, 1) := by decide +kernel
theorem dd_Xi_activate_0 : decode bb_Xi_activate 0 = .ok (.aload_n 0, 1) := by decide +kernel
theorem dd_Xi_activate_1 : decode bb_Xi_activate 1 = .ok (.getfield 81, 3) := by decide +kernel
theorem dd_Xi_activate_4 : decode bb_Xi_activate 4 = .ok (.aload_n 0, 1) := by decide +kernel
theorem dd_Xi_activate_5 : decode bb_Xi_activate 5 = .ok (.getfield 154, 3) := by decide +kernel
theorem dd_Xi_activate_8 : decode bb_Xi_activate 8 = .ok (.invokevirtual 269, 3) := by decide +kernel
theorem dd_Xi_activate_11 : decode bb_Xi_activate 11 = .ok (.ireturn, 1) := by decide +kernel
theorem dd_Xi_tick_0 : decode bb_Xi_tick 0 = .ok (.iload_n 1, 1) := by decide +kernel
theorem dd_Xi_tick_1 : decode bb_Xi_tick 1 = .ok (.iconst 1, 1) := by decide +kernel
theorem dd_Xi_tick_2 : decode bb_Xi_tick 2 = .ok (.if_icmp .lt (9), 3) := by decide +kernel
theorem dd_Xi_tick_5 : decode bb_Xi_tick 5 = .ok (.iload_n 1, 1) := by decide +kernel
theorem dd_Xi_tick_6 : decode bb_Xi_tick 6 = .ok (.bipush (64), 2) := by decide +kernel
theorem dd_Xi_tick_8 : decode bb_Xi_tick 8 = .ok (.if_icmp .le (7), 3) := by decide +kernel
theorem dd_Xi_tick_11 : decode bb_Xi_tick 11 = .ok (.sipush (-1002), 3) := by decide +kernel
theorem dd_Xi_tick_14 : decode bb_Xi_tick 14 = .ok (.ireturn, 1) := by decide +kernel
theorem dd_Xi_tick_15 : decode bb_Xi_tick 15 = .ok (.aload_n 0, 1) := by decide +kernel
theorem dd_Xi_tick_16 : decode bb_Xi_tick 16 = .ok (.dup, 1) := by decide +kernel
theorem dd_Xi_tick_17 : decode bb_Xi_tick 17 = .ok (.getfield 154, 3) := by decide +kernel
theorem dd_Xi_tick_20 : decode bb_Xi_tick 20 = .ok (.iload_n 1, 1) := by decide +kernel
theorem dd_Xi_tick_21 : decode bb_Xi_tick 21 = .ok (.iadd, 1) := by decide +kernel
theorem dd_Xi_tick_22 : decode bb_Xi_tick 22 = .ok (.putfield 154, 3) := by decide +kernel
theorem dd_Xi_tick_25 : decode bb_Xi_tick 25 = .ok (.aload_n 0, 1) := by decide +kernel
theorem dd_Xi_tick_26 : decode bb_Xi_tick 26 = .ok (.getfield 154, 3) := by decide +kernel
theorem dd_Xi_tick_29 : decode bb_Xi_tick 29 = .ok (.ireturn, 1) := by decide +kernel
