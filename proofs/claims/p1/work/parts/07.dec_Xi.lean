theorem dd_Xi_init_0 : decode bb_Xi_init 0 = .ok (.aload_n 0, 1) := by decide +kernel
theorem dd_Xi_init_1 : decode bb_Xi_init 1 = .ok (.invokespecial 1, 3) := by decide +kernel
theorem dd_Xi_init_4 : decode bb_Xi_init 4 = .ok (.aload_n 0, 1) := by decide +kernel
theorem dd_Xi_init_5 : decode bb_Xi_init 5 = .ok (.new 7, 3) := by decide +kernel
theorem dd_Xi_init_8 : decode bb_Xi_init 8 = .ok (.dup, 1) := by decide +kernel
theorem dd_Xi_init_9 : decode bb_Xi_init 9 = .ok (.invokespecial 9, 3) := by decide +kernel
theorem dd_Xi_init_12 : decode bb_Xi_init 12 = .ok (.putfield 10, 3) := by decide +kernel
theorem dd_Xi_init_15 : decode bb_Xi_init 15 = .ok (.aload_n 0, 1) := by decide +kernel
theorem dd_Xi_init_16 : decode bb_Xi_init 16 = .ok (.new 16, 3) := by decide +kernel
theorem dd_Xi_init_19 : decode bb_Xi_init 19 = .ok (.dup, 1) := by decide +kernel
theorem dd_Xi_init_20 : decode bb_Xi_init 20 = .ok (.invokespecial 18, 3) := by decide +kernel
theorem dd_Xi_init_23 : decode bb_Xi_init 23 = .ok (.putfield 19, 3) := by decide +kernel
theorem dd_Xi_init_26 : decode bb_Xi_init 26 = .ok (.aload_n 0, 1) := by decide +kernel
theorem dd_Xi_init_27 : decode bb_Xi_init 27 = .ok (.new 23, 3) := by decide +kernel
theorem dd_Xi_init_30 : decode bb_Xi_init 30 = .ok (.dup, 1) := by decide +kernel
theorem dd_Xi_init_31 : decode bb_Xi_init 31 = .ok (.invokespecial 25, 3) := by decide +kernel
theorem dd_Xi_init_34 : decode bb_Xi_init 34 = .ok (.putfield 26, 3) := by decide +kernel
theorem dd_Xi_init_37 : decode bb_Xi_init 37 = .ok (.aload_n 0, 1) := by decide +kernel
theorem dd_Xi_init_38 : decode bb_Xi_init 38 = .ok (.new 30, 3) := by decide +kernel
theorem dd_Xi_init_41 : decode bb_Xi_init 41 = .ok (.dup, 1) := by decide +kernel
theorem dd_Xi_init_42 : decode bb_Xi_init 42 = .ok (.invokespecial 32, 3) := by decide +kernel
theorem dd_Xi_init_45 : decode bb_Xi_init 45 = .ok (.putfield 33, 3) := by decide +kernel
theorem dd_Xi_init_48 : decode bb_Xi_init 48 = .ok (.aload_n 0, 1) := by decide +kernel
theorem dd_Xi_init_49 : decode bb_Xi_init 49 = .ok (.new 30, 3) := by decide +kernel
theorem dd_Xi_init_52 : decode bb_Xi_init 52 = .ok (.dup, 1) := by decide +kernel
theorem dd_Xi_init_53 : decode bb_Xi_init 53 = .ok (.invokespecial 32, 3) := by decide +kernel
theorem dd_Xi_init_56 : decode bb_Xi_init 56 = .ok (.putfield 37, 3) := by decide +kernel
theorem dd_Xi_init_59 : decode bb_Xi_init 59 = .ok (.aload_n 0, 1) := by decide +kernel
theorem dd_Xi_init_60 : decode bb_Xi_init 60 = .ok (.new 40, 3) := by decide +kernel
theorem dd_Xi_init_63 : decode bb_Xi_init 63 = .ok (.dup, 1) := by decide +kernel
theorem dd_Xi_init_64 : decode bb_Xi_init 64 = .ok (.invokespecial 42, 3) := by decide +kernel
theorem dd_Xi_init_67 : decode bb_Xi_init 67 = .ok (.putfield 43, 3) := by decide +kernel
theorem dd_Xi_init_70 : decode bb_Xi_init 70 = .ok (.aload_n 0, 1) := by decide +kernel
theorem dd_Xi_init_71 : decode bb_Xi_init 71 = .ok (.new 47, 3) := by decide +kernel
theorem dd_Xi_init_74 : decode bb_Xi_init 74 = .ok (.dup, 1) := by decide +kernel
theorem dd_Xi_init_75 : decode bb_Xi_init 75 = .ok (.invokespecial 49, 3) := by decide +kernel
theorem dd_Xi_init_78 : decode bb_Xi_init 78 = .ok (.putfield 50, 3) := by decide +kernel
theorem dd_Xi_init_81 : decode bb_Xi_init 81 = .ok (.aload_n 0, 1) := by decide +kernel
theorem dd_Xi_init_82 : decode bb_Xi_init 82 = .ok (.new 54, 3) := by decide +kernel
theorem dd_Xi_init_85 : decode bb_Xi_init 85 = .ok (.dup, 1) := by decide +kernel
theorem dd_Xi_init_86 : decode bb_Xi_init 86 = .ok (.invokespecial 56, 3) := by decide +kernel
theorem dd_Xi_init_89 : decode bb_Xi_init 89 = .ok (.putfield 57, 3) := by decide +kernel
theorem dd_Xi_init_92 : decode bb_Xi_init 92 = .ok (.aload_n 0, 1) := by decide +kernel
theorem dd_Xi_init_93 : decode bb_Xi_init 93 = .ok (.new 30, 3) := by decide +kernel
theorem dd_Xi_init_96 : decode bb_Xi_init 96 = .ok (.dup, 1) := by decide +kernel
theorem dd_Xi_init_97 : decode bb_Xi_init 97 = .ok (.invokespecial 32, 3) := by decide +kernel
theorem dd_Xi_init_100 : decode bb_Xi_init 100 = .ok (.putfield 61, 3) := by decide +kernel
theorem dd_Xi_init_103 : decode bb_Xi_init 103 = .ok (.aload_n 0, 1) := by decide +kernel
theorem dd_Xi_init_104 : decode bb_Xi_init 104 = .ok (.new 40, 3) := by decide +kernel
theorem dd_Xi_init_107 : decode bb_Xi_init 107 = .ok (.dup, 1) := by decide +kernel
theorem dd_Xi_init_108 : decode bb_Xi_init 108 = .ok (.invokespecial 42, 3) := by decide +kernel
theorem dd_Xi_init_111 : decode bb_Xi_init 111 = .ok (.putfield 64, 3) := by decide +kernel
theorem dd_Xi_init_114 : decode bb_Xi_init 114 = .ok (.aload_n 0, 1) := by decide +kernel
theorem dd_Xi_init_115 : decode bb_Xi_init 115 = .ok (.new 67, 3) := by decide +kernel
theorem dd_Xi_init_118 : decode bb_Xi_init 118 = .ok (.dup, 1) := by decide +kernel
theorem dd_Xi_init_119 : decode bb_Xi_init 119 = .ok (.bipush (32), 2) := by decide +kernel
theorem dd_Xi_init_121 : decode bb_Xi_init 121 = .ok (.sipush (256), 3) := by decide +kernel
theorem dd_Xi_init_124 : decode bb_Xi_init 124 = .ok (.iload_n 1, 1) := by decide +kernel
theorem dd_Xi_init_125 : decode bb_Xi_init 125 = .ok (.invokestatic 69, 3) := by decide +kernel
theorem dd_Xi_init_128 : decode bb_Xi_init 128 = .ok (.invokestatic 75, 3) := by decide +kernel
theorem dd_Xi_init_131 : decode bb_Xi_init 131 = .ok (.invokespecial 78, 3) := by decide +kernel
theorem dd_Xi_init_134 : decode bb_Xi_init 134 = .ok (.putfield 81, 3) := by decide +kernel
theorem dd_Xi_init_137 : decode bb_Xi_init 137 = .ok (.return_, 1) := by decide +kernel
theorem dd_Xi_put_0 : decode bb_Xi_put 0 = .ok (.iload_n 2, 1) := by decide +kernel
theorem dd_Xi_put_1 : decode bb_Xi_put 1 = .ok (.iconst 1, 1) := by decide +kernel
theorem dd_Xi_put_2 : decode bb_Xi_put 2 = .ok (.if_icmp .lt (22), 3) := by decide +kernel
theorem dd_Xi_put_5 : decode bb_Xi_put 5 = .ok (.iload_n 2, 1) := by decide +kernel
theorem dd_Xi_put_6 : decode bb_Xi_put 6 = .ok (.iconst 4, 1) := by decide +kernel
theorem dd_Xi_put_7 : decode bb_Xi_put 7 = .ok (.if_icmp .gt (17), 3) := by decide +kernel
theorem dd_Xi_put_10 : decode bb_Xi_put 10 = .ok (.aload_n 0, 1) := by decide +kernel
theorem dd_Xi_put_11 : decode bb_Xi_put 11 = .ok (.getfield 10, 3) := by decide +kernel
theorem dd_Xi_put_14 : decode bb_Xi_put 14 = .ok (.invokevirtual 85, 3) := by decide +kernel
theorem dd_Xi_put_17 : decode bb_Xi_put 17 = .ok (.iload_n 2, 1) := by decide +kernel
theorem dd_Xi_put_18 : decode bb_Xi_put 18 = .ok (.iadd, 1) := by decide +kernel
theorem dd_Xi_put_19 : decode bb_Xi_put 19 = .ok (.bipush (100), 2) := by decide +kernel
theorem dd_Xi_put_21 : decode bb_Xi_put 21 = .ok (.if_icmp .le (5), 3) := by decide +kernel
theorem dd_Xi_put_24 : decode bb_Xi_put 24 = .ok (.iconst 0, 1) := by decide +kernel
theorem dd_Xi_put_25 : decode bb_Xi_put 25 = .ok (.ireturn, 1) := by decide +kernel
theorem dd_Xi_put_26 : decode bb_Xi_put 26 = .ok (.iload_n 2, 1) := by decide +kernel
theorem dd_Xi_put_27 : decode bb_Xi_put 27 = .ok (.iconst 1, 1) := by decide +kernel
theorem dd_Xi_put_28 : decode bb_Xi_put 28 = .ok (.isub, 1) := by decide +kernel
theorem dd_Xi_put_29 : decode bb_Xi_put 29 = .ok (.istore_n 3, 1) := by decide +kernel
theorem dd_Xi_put_30 : decode bb_Xi_put 30 = .ok (.iload_n 3, 1) := by decide +kernel
theorem dd_Xi_put_31 : decode bb_Xi_put 31 = .ok (.ifCond .lt (26), 3) := by decide +kernel
theorem dd_Xi_put_34 : decode bb_Xi_put 34 = .ok (.aload_n 0, 1) := by decide +kernel
theorem dd_Xi_put_35 : decode bb_Xi_put 35 = .ok (.getfield 10, 3) := by decide +kernel
theorem dd_Xi_put_38 : decode bb_Xi_put 38 = .ok (.iload_n 1, 1) := by decide +kernel
theorem dd_Xi_put_39 : decode bb_Xi_put 39 = .ok (.bipush (8), 2) := by decide +kernel
theorem dd_Xi_put_41 : decode bb_Xi_put 41 = .ok (.iload_n 3, 1) := by decide +kernel
theorem dd_Xi_put_42 : decode bb_Xi_put 42 = .ok (.imul, 1) := by decide +kernel
theorem dd_Xi_put_43 : decode bb_Xi_put 43 = .ok (.iushr, 1) := by decide +kernel
theorem dd_Xi_put_44 : decode bb_Xi_put 44 = .ok (.sipush (255), 3) := by decide +kernel
theorem dd_Xi_put_47 : decode bb_Xi_put 47 = .ok (.iand, 1) := by decide +kernel
theorem dd_Xi_put_48 : decode bb_Xi_put 48 = .ok (.invokevirtual 89, 3) := by decide +kernel
theorem dd_Xi_put_51 : decode bb_Xi_put 51 = .ok (.iinc 3 (-1), 3) := by decide +kernel
theorem dd_Xi_put_54 : decode bb_Xi_put 54 = .ok (.goto (-24), 3) := by decide +kernel
theorem dd_Xi_put_57 : decode bb_Xi_put 57 = .ok (.iconst 1, 1) := by decide +kernel
theorem dd_Xi_put_58 : decode bb_Xi_put 58 = .ok (.ireturn, 1) := by decide +kernel
theorem dd_Xi_id_0 : decode bb_Xi_id 0 = .ok (.aload_n 0, 1) := by decide +kernel
theorem dd_Xi_id_1 : decode bb_Xi_id 1 = .ok (.invokevirtual 92, 3) := by decide +kernel
theorem dd_Xi_id_4 : decode bb_Xi_id 4 = .ok (.istore_n 1, 1) := by decide +kernel
theorem dd_Xi_id_5 : decode bb_Xi_id 5 = .ok (.aload_n 0, 1) := by decide +kernel
theorem dd_Xi_id_6 : decode bb_Xi_id 6 = .ok (.getfield 10, 3) := by decide +kernel
theorem dd_Xi_id_9 : decode bb_Xi_id 9 = .ok (.invokevirtual 95, 3) := by decide +kernel
theorem dd_Xi_id_12 : decode bb_Xi_id 12 = .ok (.iload_n 1, 1) := by decide +kernel
theorem dd_Xi_id_13 : decode bb_Xi_id 13 = .ok (.ireturn, 1) := by decide +kernel
theorem dd_Xi_numberOfText_0 : decode bb_Xi_numberOfText 0 = .ok (.aload_n 0, 1) := by decide +kernel
theorem dd_Xi_numberOfText_1 : decode bb_Xi_numberOfText 1 = .ok (.getfield 10, 3) := by decide +kernel
theorem dd_Xi_numberOfText_4 : decode bb_Xi_numberOfText 4 = .ok (.iconst 0, 1) := by decide +kernel
theorem dd_Xi_numberOfText_5 : decode bb_Xi_numberOfText 5 = .ok (.aload_n 0, 1) := by decide +kernel
theorem dd_Xi_numberOfText_6 : decode bb_Xi_numberOfText 6 = .ok (.getfield 10, 3) := by decide +kernel
theorem dd_Xi_numberOfText_9 : decode bb_Xi_numberOfText 9 = .ok (.invokevirtual 85, 3) := by decide +kernel
theorem dd_Xi_numberOfText_12 : decode bb_Xi_numberOfText 12 = .ok (.invokestatic 272, 3) := by decide +kernel
theorem dd_Xi_numberOfText_15 : decode bb_Xi_numberOfText 15 = .ok (.istore_n 1, 1) := by decide +kernel
theorem dd_Xi_numberOfText_16 : decode bb_Xi_numberOfText 16 = .ok (.iload_n 1, 1) := by decide +kernel
theorem dd_Xi_numberOfText_17 : decode bb_Xi_numberOfText 17 = .ok (.iconst (-1), 1) := by decide +kernel
theorem dd_Xi_numberOfText_18 : decode bb_Xi_numberOfText 18 = .ok (.if_icmp .eq (7), 3) := by decide +kernel
theorem dd_Xi_numberOfText_21 : decode bb_Xi_numberOfText 21 = .ok (.iconst (-1), 1) := by decide +kernel
theorem dd_Xi_numberOfText_22 : decode bb_Xi_numberOfText 22 = .ok (.iload_n 1, 1) := by decide +kernel
theorem dd_Xi_numberOfText_23 : decode bb_Xi_numberOfText 23 = .ok (.isub, 1) := by decide +kernel
theorem dd_Xi_numberOfText_24 : decode bb_Xi_numberOfText 24 = .ok (.ireturn, 1) := by decide +kernel
theorem dd_Xi_entry_0 : decode bb_Xi_entry 0 = .ok (.aload_n 0, 1) := by decide +kernel
theorem dd_Xi_entry_1 : decode bb_Xi_entry 1 = .ok (.getfield 19, 3) := by decide +kernel
theorem dd_Xi_entry_4 : decode bb_Xi_entry 4 = .ok (.iload_n 1, 1) := by decide +kernel
theorem dd_Xi_entry_5 : decode bb_Xi_entry 5 = .ok (.invokevirtual 98, 3) := by decide +kernel
theorem dd_Xi_entry_8 : decode bb_Xi_entry 8 = .ok (.ifCond .eq (14), 3) := by decide +kernel
theorem dd_Xi_entry_11 : decode bb_Xi_entry 11 = .ok (.aload_n 0, 1) := by decide +kernel
theorem dd_Xi_entry_12 : decode bb_Xi_entry 12 = .ok (.getfield 19, 3) := by decide +kernel
theorem dd_Xi_entry_15 : decode bb_Xi_entry 15 = .ok (.iload_n 2, 1) := by decide +kernel
theorem dd_Xi_entry_16 : decode bb_Xi_entry 16 = .ok (.invokevirtual 98, 3) := by decide +kernel
theorem dd_Xi_entry_19 : decode bb_Xi_entry 19 = .ok (.ifCond .ne (7), 3) := by decide +kernel
theorem dd_Xi_entry_22 : decode bb_Xi_entry 22 = .ok (.sipush (-1001), 3) := by decide +kernel
theorem dd_Xi_entry_25 : decode bb_Xi_entry 25 = .ok (.ireturn, 1) := by decide +kernel
theorem dd_Xi_remove_0 : decode bb_Xi_remove 0 = .ok (.aload_n 0, 1) := by decide +kernel
theorem dd_Xi_remove_1 : decode bb_Xi_remove 1 = .ok (.getfield 26, 3) := by decide +kernel
theorem dd_Xi_remove_4 : decode bb_Xi_remove 4 = .ok (.iload_n 1, 1) := by decide +kernel
theorem dd_Xi_remove_5 : decode bb_Xi_remove 5 = .ok (.invokevirtual 117, 3) := by decide +kernel
theorem dd_Xi_remove_8 : decode bb_Xi_remove 8 = .ok (.ireturn, 1) := by decide +kernel
theorem dd_Xi_foreign_0 : decode bb_Xi_foreign 0 = .ok (.iload_n 1, 1) := by decide +kernel
theorem dd_Xi_foreign_1 : decode bb_Xi_foreign 1 = .ok (.ifCond .lt (28), 3) := by decide +kernel
theorem dd_Xi_foreign_4 : decode bb_Xi_foreign 4 = .ok (.iload_n 1, 1) := by decide +kernel
theorem dd_Xi_foreign_5 : decode bb_Xi_foreign 5 = .ok (.iconst 4, 1) := by decide +kernel
theorem dd_Xi_foreign_6 : decode bb_Xi_foreign 6 = .ok (.if_icmp .ge (23), 3) := by decide +kernel
theorem dd_Xi_foreign_9 : decode bb_Xi_foreign 9 = .ok (.aload_n 0, 1) := by decide +kernel
theorem dd_Xi_foreign_10 : decode bb_Xi_foreign 10 = .ok (.getfield 120, 3) := by decide +kernel
theorem dd_Xi_foreign_13 : decode bb_Xi_foreign 13 = .ok (.iload_n 1, 1) := by decide +kernel
theorem dd_Xi_foreign_14 : decode bb_Xi_foreign 14 = .ok (.ishr, 1) := by decide +kernel
theorem dd_Xi_foreign_15 : decode bb_Xi_foreign 15 = .ok (.iconst 1, 1) := by decide +kernel
theorem dd_Xi_foreign_16 : decode bb_Xi_foreign 16 = .ok (.iand, 1) := by decide +kernel
theorem dd_Xi_foreign_17 : decode bb_Xi_foreign 17 = .ok (.iload_n 2, 1) := by decide +kernel
theorem dd_Xi_foreign_18 : decode bb_Xi_foreign 18 = .ok (.ifCond .eq (7), 3) := by decide +kernel
theorem dd_Xi_foreign_21 : decode bb_Xi_foreign 21 = .ok (.iconst 1, 1) := by decide +kernel
theorem dd_Xi_foreign_22 : decode bb_Xi_foreign 22 = .ok (.goto (4), 3) := by decide +kernel
theorem dd_Xi_foreign_25 : decode bb_Xi_foreign 25 = .ok (.iconst 0, 1) := by decide +kernel
theorem dd_Xi_foreign_26 : decode bb_Xi_foreign 26 = .ok (.if_icmp .ne (5), 3) := by decide +kernel
theorem dd_Xi_foreign_29 : decode bb_Xi_foreign 29 = .ok (.iconst 0, 1) := by decide +kernel
theorem dd_Xi_foreign_30 : decode bb_Xi_foreign 30 = .ok (.ireturn, 1) := by decide +kernel
theorem dd_Xi_foreign_31 : decode bb_Xi_foreign 31 = .ok (.aload_n 0, 1) := by decide +kernel
theorem dd_Xi_foreign_32 : decode bb_Xi_foreign 32 = .ok (.dup, 1) := by decide +kernel
theorem dd_Xi_foreign_33 : decode bb_Xi_foreign 33 = .ok (.getfield 120, 3) := by decide +kernel
theorem dd_Xi_foreign_36 : decode bb_Xi_foreign 36 = .ok (.iconst 1, 1) := by decide +kernel
theorem dd_Xi_foreign_37 : decode bb_Xi_foreign 37 = .ok (.iload_n 1, 1) := by decide +kernel
theorem dd_Xi_foreign_38 : decode bb_Xi_foreign 38 = .ok (.ishl, 1) := by decide +kernel
theorem dd_Xi_foreign_39 : decode bb_Xi_foreign 39 = .ok (.ixor, 1) := by decide +kernel
theorem dd_Xi_foreign_40 : decode bb_Xi_foreign 40 = .ok (.putfield 120, 3) := by decide +kernel
theorem dd_Xi_foreign_43 : decode bb_Xi_foreign 43 = .ok (.iconst 1, 1) := by decide +kernel
theorem dd_Xi_foreign_44 : decode bb_Xi_foreign 44 = .ok (.ireturn, 1) := by decide +kernel
theorem dd_Xi_attest_0 : decode bb_Xi_attest 0 = .ok (.aload_n 0, 1) := by decide +kernel
theorem dd_Xi_attest_1 : decode bb_Xi_attest 1 = .ok (.getfield 19, 3) := by decide +kernel
theorem dd_Xi_attest_4 : decode bb_Xi_attest 4 = .ok (.iload_n 1, 1) := by decide +kernel
theorem dd_Xi_attest_5 : decode bb_Xi_attest 5 = .ok (.invokevirtual 98, 3) := by decide +kernel
theorem dd_Xi_attest_8 : decode bb_Xi_attest 8 = .ok (.ifCond .ne (7), 3) := by decide +kernel
theorem dd_Xi_attest_11 : decode bb_Xi_attest 11 = .ok (.sipush (-1001), 3) := by decide +kernel
theorem dd_Xi_attest_14 : decode bb_Xi_attest 14 = .ok (.ireturn, 1) := by decide +kernel
theorem dd_Xi_sync_0 : decode bb_Xi_sync 0 = .ok (.aload_n 0, 1) := by decide +kernel
theorem dd_Xi_sync_1 : decode bb_Xi_sync 1 = .ok (.iload_n 1, 1) := by decide +kernel
theorem dd_Xi_sync_2 : decode bb_Xi_sync 2 = .ok (.invokevirtual 140, 3) := by decide +kernel
theorem dd_Xi_sync_5 : decode bb_Xi_sync 5 = .ok (.ifCond .ne (7), 3) := by decide +kernel
theorem dd_Xi_sync_8 : decode bb_Xi_sync 8 = .ok (.sipush (-1001), 3) := by decide +kernel
theorem dd_Xi_sync_11 : decode bb_Xi_sync 11 = .ok (.ireturn, 1) := by decide +kernel
theorem dd_Xi_isAgent_0 : decode bb_Xi_isAgent 0 = .ok (.iload_n 1, 1) := by decide +kernel
theorem dd_Xi_isAgent_1 : decode bb_Xi_isAgent 1 = .ok (.ifCond .lt (18), 3) := by decide +kernel
theorem dd_Xi_isAgent_4 : decode bb_Xi_isAgent 4 = .ok (.iload_n 1, 1) := by decide +kernel
theorem dd_Xi_isAgent_5 : decode bb_Xi_isAgent 5 = .ok (.aload_n 0, 1) := by decide +kernel
theorem dd_Xi_isAgent_6 : decode bb_Xi_isAgent 6 = .ok (.getfield 33, 3) := by decide +kernel
theorem dd_Xi_isAgent_9 : decode bb_Xi_isAgent 9 = .ok (.invokevirtual 182, 3) := by decide +kernel
theorem dd_Xi_isAgent_12 : decode bb_Xi_isAgent 12 = .ok (.if_icmp .ge (7), 3) := by decide +kernel
theorem dd_Xi_isAgent_15 : decode bb_Xi_isAgent 15 = .ok (.iconst 1, 1) := by decide +kernel
theorem dd_Xi_isAgent_16 : decode bb_Xi_isAgent 16 = .ok (.goto (4), 3) := by decide +kernel
theorem dd_Xi_isAgent_19 : decode bb_Xi_isAgent 19 = .ok (.iconst 0, 1) := by decide +kernel
theorem dd_Xi_isAgent_20 : decode bb_Xi_isAgent 20 = .ok (.ireturn, 1) := by decide +kernel
theorem dd_Xi_fetch_0 : decode bb_Xi_fetch 0 = .ok (.aload_n 0, 1) := by decide +kernel
theorem dd_Xi_fetch_1 : decode bb_Xi_fetch 1 = .ok (.iload_n 1, 1) := by decide +kernel
theorem dd_Xi_fetch_2 : decode bb_Xi_fetch 2 = .ok (.invokevirtual 140, 3) := by decide +kernel
theorem dd_Xi_fetch_5 : decode bb_Xi_fetch 5 = .ok (.ifCond .ne (7), 3) := by decide +kernel
theorem dd_Xi_fetch_8 : decode bb_Xi_fetch 8 = .ok (.sipush (-1001), 3) := by decide +kernel
theorem dd_Xi_fetch_11 : decode bb_Xi_fetch 11 = .ok (.ireturn, 1) := by decide +kernel
theorem dd_Xi_watch_0 : decode bb_Xi_watch 0 = .ok (.aload_n 0, 1) := by decide +kernel
theorem dd_Xi_watch_1 : decode bb_Xi_watch 1 = .ok (.iload_n 1, 1) := by decide +kernel
theorem dd_Xi_watch_2 : decode bb_Xi_watch 2 = .ok (.invokevirtual 140, 3) := by decide +kernel
theorem dd_Xi_watch_5 : decode bb_Xi_watch 5 = .ok (.ifCond .ne (7), 3) := by decide +kernel
theorem dd_Xi_watch_8 : decode bb_Xi_watch 8 = .ok (.sipush (-1001), 3) := by decide +kernel
theorem dd_Xi_watch_11 : decode bb_Xi_watch 11 = .ok (.ireturn, 1) := by decide +kernel
theorem dd_Xi_poll_0 : decode bb_Xi_poll 0 = .ok (.iload_n 1, 1) := by decide +kernel
theorem dd_Xi_poll_1 : decode bb_Xi_poll 1 = .ok (.ifCond .lt (14), 3) := by decide +kernel
theorem dd_Xi_poll_4 : decode bb_Xi_poll 4 = .ok (.iload_n 1, 1) := by decide +kernel
theorem dd_Xi_poll_5 : decode bb_Xi_poll 5 = .ok (.aload_n 0, 1) := by decide +kernel
theorem dd_Xi_poll_6 : decode bb_Xi_poll 6 = .ok (.getfield 37, 3) := by decide +kernel
theorem dd_Xi_poll_9 : decode bb_Xi_poll 9 = .ok (.invokevirtual 182, 3) := by decide +kernel
theorem dd_Xi_poll_12 : decode bb_Xi_poll 12 = .ok (.if_icmp .lt (7), 3) := by decide +kernel
theorem dd_Xi_poll_15 : decode bb_Xi_poll 15 = .ok (.sipush (-1001), 3) := by decide +kernel
theorem dd_Xi_poll_18 : decode bb_Xi_poll 18 = .ok (.ireturn, 1) := by decide +kernel
theorem dd_Xi_svid_0 : decode bb_Xi_svid 0 = .ok (.aload_n 0, 1) := by decide +kernel
theorem dd_Xi_svid_1 : decode bb_Xi_svid 1 = .ok (.getfield 43, 3) := by decide +kernel
theorem dd_Xi_svid_4 : decode bb_Xi_svid 4 = .ok (.iload_n 1, 1) := by decide +kernel
theorem dd_Xi_svid_5 : decode bb_Xi_svid 5 = .ok (.invokevirtual 211, 3) := by decide +kernel
theorem dd_Xi_svid_8 : decode bb_Xi_svid 8 = .ok (.ifCond .ne (7), 3) := by decide +kernel
theorem dd_Xi_svid_11 : decode bb_Xi_svid 11 = .ok (.sipush (-1001), 3) := by decide +kernel
theorem dd_Xi_svid_14 : decode bb_Xi_svid 14 = .ok (.ireturn, 1) := by decide +kernel
theorem dd_Xi_key_0 : decode bb_Xi_key 0 = .ok (.iload_n 1, 1) := by decide +kernel
theorem dd_Xi_key_1 : decode bb_Xi_key 1 = .ok (.ifCond .lt (26), 3) := by decide +kernel
theorem dd_Xi_key_4 : decode bb_Xi_key 4 = .ok (.iload_n 1, 1) := by decide +kernel
theorem dd_Xi_key_5 : decode bb_Xi_key 5 = .ok (.aload_n 0, 1) := by decide +kernel
theorem dd_Xi_key_6 : decode bb_Xi_key 6 = .ok (.getfield 43, 3) := by decide +kernel
theorem dd_Xi_key_9 : decode bb_Xi_key 9 = .ok (.invokevirtual 241, 3) := by decide +kernel
theorem dd_Xi_key_12 : decode bb_Xi_key 12 = .ok (.if_icmp .ge (15), 3) := by decide +kernel
theorem dd_Xi_key_15 : decode bb_Xi_key 15 = .ok (.aload_n 0, 1) := by decide +kernel
theorem dd_Xi_key_16 : decode bb_Xi_key 16 = .ok (.getfield 43, 3) := by decide +kernel
theorem dd_Xi_key_19 : decode bb_Xi_key 19 = .ok (.getfield 244, 3) := by decide +kernel
theorem dd_Xi_key_22 : decode bb_Xi_key 22 = .ok (.iload_n 1, 1) := by decide +kernel
theorem dd_Xi_key_23 : decode bb_Xi_key 23 = .ok (.iadd, 1) := by decide +kernel
theorem dd_Xi_key_24 : decode bb_Xi_key 24 = .ok (.goto (6), 3) := by decide +kernel
theorem dd_Xi_key_27 : decode bb_Xi_key 27 = .ok (.sipush (-1001), 3) := by decide +kernel
theorem dd_Xi_key_30 : decode bb_Xi_key 30 = .ok (.ireturn, 1) := by decide +kernel
theorem dd_Xi_friends_0 : decode bb_Xi_friends 0 = .ok (.aload_n 0, 1) := by decide +kernel
theorem dd_Xi_friends_1 : decode bb_Xi_friends 1 = .ok (.getfield 43, 3) := by decide +kernel
theorem dd_Xi_friends_4 : decode bb_Xi_friends 4 = .ok (.getfield 247, 3) := by decide +kernel
theorem dd_Xi_friends_7 : decode bb_Xi_friends 7 = .ok (.ireturn, 1) := by decide +kernel
theorem dd_Xi_written_0 : decode bb_Xi_written 0 = .ok (.aload_n 0, 1) := by decide +kernel
theorem dd_Xi_written_1 : decode bb_Xi_written 1 = .ok (.getfield 43, 3) := by decide +kernel
theorem dd_Xi_written_4 : decode bb_Xi_written 4 = .ok (.iload_n 1, 1) := by decide +kernel
theorem dd_Xi_written_5 : decode bb_Xi_written 5 = .ok (.invokevirtual 211, 3) := by decide +kernel
theorem dd_Xi_written_8 : decode bb_Xi_written 8 = .ok (.ifCond .ne (7), 3) := by decide +kernel
theorem dd_Xi_written_11 : decode bb_Xi_written 11 = .ok (.sipush (-1001), 3) := by decide +kernel
theorem dd_Xi_written_14 : decode bb_Xi_written 14 = .ok (.ireturn, 1) := by decide +kernel
theorem dd_Xi_verify_0 : decode bb_Xi_verify 0 = .ok (.aload_n 0, 1) := by decide +kernel
theorem dd_Xi_verify_1 : decode bb_Xi_verify 1 = .ok (.getfield 50, 3) := by decide +kernel
theorem dd_Xi_verify_4 : decode bb_Xi_verify 4 = .ok (.aload_n 0, 1) := by decide +kernel
theorem dd_Xi_verify_5 : decode bb_Xi_verify 5 = .ok (.getfield 10, 3) := by decide +kernel
theorem dd_Xi_verify_8 : decode bb_Xi_verify 8 = .ok (.invokevirtual 257, 3) := by decide +kernel
theorem dd_Xi_verify_11 : decode bb_Xi_verify 11 = .ok (.aload_n 0, 1) := by decide +kernel
theorem dd_Xi_verify_12 : decode bb_Xi_verify 12 = .ok (.invokevirtual 261, 3) := by decide +kernel
theorem dd_Xi_verify_15 : decode bb_Xi_verify 15 = .ok (.istore_n 1, 1) := by decide +kernel
theorem dd_Xi_verify_16 : decode bb_Xi_verify 16 = .ok (.aload_n 0, 1) := by decide +kernel
theorem dd_Xi_verify_17 : decode bb_Xi_verify 17 = .ok (.getfield 10, 3) := by decide +kernel
theorem dd_Xi_verify_20 : decode bb_Xi_verify 20 = .ok (.invokevirtual 95, 3) := by decide +kernel
theorem dd_Xi_verify_23 : decode bb_Xi_verify 23 = .ok (.iload_n 1, 1) := by decide +kernel
theorem dd_Xi_verify_24 : decode bb_Xi_verify 24 = .ok (.ireturn, 1) := by decide +kernel
theorem dd_Xi_judge_0 : decode bb_Xi_judge 0 = .ok (.aload_n 0, 1) := by decide +kernel
theorem dd_Xi_judge_1 : decode bb_Xi_judge 1 = .ok (.getfield 50, 3) := by decide +kernel
theorem dd_Xi_judge_4 : decode bb_Xi_judge 4 = .ok (.getfield 321, 3) := by decide +kernel
theorem dd_Xi_judge_7 : decode bb_Xi_judge 7 = .ok (.iconst (-1), 1) := by decide +kernel
theorem dd_Xi_judge_8 : decode bb_Xi_judge 8 = .ok (.if_icmp .eq (13), 3) := by decide +kernel
theorem dd_Xi_judge_11 : decode bb_Xi_judge 11 = .ok (.iconst (-1), 1) := by decide +kernel
theorem dd_Xi_judge_12 : decode bb_Xi_judge 12 = .ok (.aload_n 0, 1) := by decide +kernel
theorem dd_Xi_judge_13 : decode bb_Xi_judge 13 = .ok (.getfield 50, 3) := by decide +kernel
theorem dd_Xi_judge_16 : decode bb_Xi_judge 16 = .ok (.getfield 321, 3) := by decide +kernel
theorem dd_Xi_judge_19 : decode bb_Xi_judge 19 = .ok (.isub, 1) := by decide +kernel
theorem dd_Xi_judge_20 : decode bb_Xi_judge 20 = .ok (.ireturn, 1) := by decide +kernel
theorem dd_Xi_prepare_0 : decode bb_Xi_prepare 0 = .ok (.aload_n 0, 1) := by decide +kernel
theorem dd_Xi_prepare_1 : decode bb_Xi_prepare 1 = .ok (.getfield 81, 3) := by decide +kernel
theorem dd_Xi_prepare_4 : decode bb_Xi_prepare 4 = .ok (.aload_n 0, 1) := by decide +kernel
theorem dd_Xi_prepare_5 : decode bb_Xi_prepare 5 = .ok (.getfield 154, 3) := by decide +kernel
theorem dd_Xi_prepare_8 : decode bb_Xi_prepare 8 = .ok (.invokevirtual 264, 3) := by decide +kernel
theorem dd_Xi_prepare_11 : decode bb_Xi_prepare 11 = .ok (.ifCond .eq (17), 3) := by decide +kernel
theorem dd_Xi_prepare_14 : decode bb_Xi_prepare 14 = .ok (.aload_n 0, 1) := by decide +kernel
theorem dd_Xi_prepare_15 : decode bb_Xi_prepare 15 = .ok (.getfield 81, 3) := by decide +kernel
theorem dd_Xi_prepare_18 : decode bb_Xi_prepare 18 = .ok (.aload_n 0, 1) := by decide +kernel
theorem dd_Xi_prepare_19 : decode bb_Xi_prepare 19 = .ok (.getfield 154, 3) := by decide +kernel
theorem dd_Xi_prepare_22 : decode bb_Xi_prepare 22 = .ok (.invokevirtual 267, 3) := by decide +kernel
theorem dd_Xi_prepare_25 : decode bb_Xi_prepare 25 = .ok (.goto (6), 3) := by decide +kernel
theorem dd_Xi_prepare_28 : decode bb_Xi_prepare 28 = .ok (.sipush (-1003), 3) := by decide +kernel
theorem dd_Xi_prepare_31 : decode bb_Xi_prepare 31 = .ok (.ireturn, 1) := by decide +kernel
theorem dd_Xi_activate_0 : decode bb_Xi_activate 0 = .ok (.aload_n 0, 1) := by decide +kernel
theorem dd_Xi_activate_1 : decode bb_Xi_activate 1 = .ok (.getfield 81, 3) := by decide +kernel
theorem dd_Xi_activate_4 : decode bb_Xi_activate 4 = .ok (.aload_n 0, 1) := by decide +kernel
theorem dd_Xi_activate_5 : decode bb_Xi_activate 5 = .ok (.getfield 154, 3) := by decide +kernel
theorem dd_Xi_activate_8 : decode bb_Xi_activate 8 = .ok (.invokevirtual 269, 3) := by decide +kernel
theorem dd_Xi_activate_11 : decode bb_Xi_activate 11 = .ok (.ireturn, 1) := by decide +kernel
theorem dd_Xi_tick_0 : decode bb_Xi_tick 0 = .ok (.iload_n 1, 1) := by decide +kernel
theorem dd_Xi_tick_1 : decode bb_Xi_tick 1 = .ok (.iconst 1, 1) := by decide +kernel
theorem dd_Xi_tick_2 : decode bb_Xi_tick 2 = .ok (.if_icmp .lt (9), 3) := by decide +kernel
theorem dd_Xi_tick_5 : decode bb_Xi_tick 5 = .ok (.iload_n 1, 1) := by decide +kernel
theorem dd_Xi_tick_6 : decode bb_Xi_tick 6 = .ok (.bipush (64), 2) := by decide +kernel
theorem dd_Xi_tick_8 : decode bb_Xi_tick 8 = .ok (.if_icmp .le (7), 3) := by decide +kernel
theorem dd_Xi_tick_11 : decode bb_Xi_tick 11 = .ok (.sipush (-1002), 3) := by decide +kernel
theorem dd_Xi_tick_14 : decode bb_Xi_tick 14 = .ok (.ireturn, 1) := by decide +kernel
theorem dd_Xi_tick_15 : decode bb_Xi_tick 15 = .ok (.aload_n 0, 1) := by decide +kernel
theorem dd_Xi_tick_16 : decode bb_Xi_tick 16 = .ok (.dup, 1) := by decide +kernel
theorem dd_Xi_tick_17 : decode bb_Xi_tick 17 = .ok (.getfield 154, 3) := by decide +kernel
theorem dd_Xi_tick_20 : decode bb_Xi_tick 20 = .ok (.iload_n 1, 1) := by decide +kernel
theorem dd_Xi_tick_21 : decode bb_Xi_tick 21 = .ok (.iadd, 1) := by decide +kernel
theorem dd_Xi_tick_22 : decode bb_Xi_tick 22 = .ok (.putfield 154, 3) := by decide +kernel
theorem dd_Xi_tick_25 : decode bb_Xi_tick 25 = .ok (.aload_n 0, 1) := by decide +kernel
theorem dd_Xi_tick_26 : decode bb_Xi_tick 26 = .ok (.getfield 154, 3) := by decide +kernel
theorem dd_Xi_tick_29 : decode bb_Xi_tick 29 = .ok (.ireturn, 1) := by decide +kernel

