theorem dd_Rd_init_0 : decode bb_Rd_init 0 = .ok (.aload_n 0, 1) := by decide +kernel
theorem dd_Rd_init_1 : decode bb_Rd_init 1 = .ok (.invokespecial 3, 3) := by decide +kernel
theorem dd_Rd_init_4 : decode bb_Rd_init 4 = .ok (.aload_n 0, 1) := by decide +kernel
theorem dd_Rd_init_5 : decode bb_Rd_init 5 = .ok (.new 9, 3) := by decide +kernel
theorem dd_Rd_init_8 : decode bb_Rd_init 8 = .ok (.dup, 1) := by decide +kernel
theorem dd_Rd_init_9 : decode bb_Rd_init 9 = .ok (.invokespecial 11, 3) := by decide +kernel
theorem dd_Rd_init_12 : decode bb_Rd_init 12 = .ok (.putfield 12, 3) := by decide +kernel
theorem dd_Rd_init_15 : decode bb_Rd_init 15 = .ok (.return_, 1) := by decide +kernel
theorem dd_Rd_read_0 : decode bb_Rd_read 0 = .ok (.aload_n 0, 1) := by decide +kernel
theorem dd_Rd_read_1 : decode bb_Rd_read 1 = .ok (.aload_n 1, 1) := by decide +kernel
theorem dd_Rd_read_2 : decode bb_Rd_read 2 = .ok (.putfield 12, 3) := by decide +kernel
theorem dd_Rd_read_5 : decode bb_Rd_read 5 = .ok (.aload_n 0, 1) := by decide +kernel
theorem dd_Rd_read_6 : decode bb_Rd_read 6 = .ok (.iconst 0, 1) := by decide +kernel
theorem dd_Rd_read_7 : decode bb_Rd_read 7 = .ok (.putfield 18, 3) := by decide +kernel
theorem dd_Rd_read_10 : decode bb_Rd_read 10 = .ok (.aload_n 0, 1) := by decide +kernel
theorem dd_Rd_read_11 : decode bb_Rd_read 11 = .ok (.iconst (-1), 1) := by decide +kernel
theorem dd_Rd_read_12 : decode bb_Rd_read 12 = .ok (.putfield 22, 3) := by decide +kernel
theorem dd_Rd_read_15 : decode bb_Rd_read 15 = .ok (.aload_n 0, 1) := by decide +kernel
theorem dd_Rd_read_16 : decode bb_Rd_read 16 = .ok (.bipush (48), 2) := by decide +kernel
theorem dd_Rd_read_18 : decode bb_Rd_read 18 = .ok (.invokevirtual 25, 3) := by decide +kernel
theorem dd_Rd_read_21 : decode bb_Rd_read 21 = .ok (.aload_n 0, 1) := by decide +kernel
theorem dd_Rd_read_22 : decode bb_Rd_read 22 = .ok (.invokevirtual 29, 3) := by decide +kernel
theorem dd_Rd_read_25 : decode bb_Rd_read 25 = .ok (.aload_n 0, 1) := by decide +kernel
theorem dd_Rd_read_26 : decode bb_Rd_read 26 = .ok (.bipush (48), 2) := by decide +kernel
theorem dd_Rd_read_28 : decode bb_Rd_read 28 = .ok (.invokevirtual 25, 3) := by decide +kernel
theorem dd_Rd_read_31 : decode bb_Rd_read 31 = .ok (.aload_n 0, 1) := by decide +kernel
theorem dd_Rd_read_32 : decode bb_Rd_read 32 = .ok (.invokevirtual 29, 3) := by decide +kernel
theorem dd_Rd_read_35 : decode bb_Rd_read 35 = .ok (.aload_n 0, 1) := by decide +kernel
theorem dd_Rd_read_36 : decode bb_Rd_read 36 = .ok (.aload_n 0, 1) := by decide +kernel
theorem dd_Rd_read_37 : decode bb_Rd_read 37 = .ok (.invokevirtual 32, 3) := by decide +kernel
theorem dd_Rd_read_40 : decode bb_Rd_read 40 = .ok (.putfield 36, 3) := by decide +kernel
theorem dd_Rd_read_43 : decode bb_Rd_read 43 = .ok (.aload_n 0, 1) := by decide +kernel
theorem dd_Rd_read_44 : decode bb_Rd_read 44 = .ok (.aload_n 0, 1) := by decide +kernel
theorem dd_Rd_read_45 : decode bb_Rd_read 45 = .ok (.invokevirtual 32, 3) := by decide +kernel
theorem dd_Rd_read_48 : decode bb_Rd_read 48 = .ok (.putfield 39, 3) := by decide +kernel
theorem dd_Rd_read_51 : decode bb_Rd_read 51 = .ok (.aload_n 0, 1) := by decide +kernel
theorem dd_Rd_read_52 : decode bb_Rd_read 52 = .ok (.aload_n 0, 1) := by decide +kernel
theorem dd_Rd_read_53 : decode bb_Rd_read 53 = .ok (.invokevirtual 32, 3) := by decide +kernel
theorem dd_Rd_read_56 : decode bb_Rd_read 56 = .ok (.putfield 42, 3) := by decide +kernel
theorem dd_Rd_read_59 : decode bb_Rd_read 59 = .ok (.aload_n 0, 1) := by decide +kernel
theorem dd_Rd_read_60 : decode bb_Rd_read 60 = .ok (.aload_n 0, 1) := by decide +kernel
theorem dd_Rd_read_61 : decode bb_Rd_read 61 = .ok (.invokevirtual 32, 3) := by decide +kernel
theorem dd_Rd_read_64 : decode bb_Rd_read 64 = .ok (.putfield 45, 3) := by decide +kernel
theorem dd_Rd_read_67 : decode bb_Rd_read 67 = .ok (.aload_n 0, 1) := by decide +kernel
theorem dd_Rd_read_68 : decode bb_Rd_read 68 = .ok (.invokevirtual 48, 3) := by decide +kernel
theorem dd_Rd_read_71 : decode bb_Rd_read 71 = .ok (.iconst 0, 1) := by decide +kernel
theorem dd_Rd_read_72 : decode bb_Rd_read 72 = .ok (.istore_n 2, 1) := by decide +kernel
theorem dd_Rd_read_73 : decode bb_Rd_read 73 = .ok (.iload_n 2, 1) := by decide +kernel
theorem dd_Rd_read_74 : decode bb_Rd_read 74 = .ok (.getstatic 51, 3) := by decide +kernel
theorem dd_Rd_read_77 : decode bb_Rd_read 77 = .ok (.arraylength, 1) := by decide +kernel
theorem dd_Rd_read_78 : decode bb_Rd_read 78 = .ok (.if_icmp .ge (18), 3) := by decide +kernel
theorem dd_Rd_read_81 : decode bb_Rd_read 81 = .ok (.aload_n 0, 1) := by decide +kernel
theorem dd_Rd_read_82 : decode bb_Rd_read 82 = .ok (.getstatic 51, 3) := by decide +kernel
theorem dd_Rd_read_85 : decode bb_Rd_read 85 = .ok (.iload_n 2, 1) := by decide +kernel
theorem dd_Rd_read_86 : decode bb_Rd_read 86 = .ok (.iaload, 1) := by decide +kernel
theorem dd_Rd_read_87 : decode bb_Rd_read 87 = .ok (.invokevirtual 25, 3) := by decide +kernel
theorem dd_Rd_read_90 : decode bb_Rd_read 90 = .ok (.iinc 2 (1), 3) := by decide +kernel
theorem dd_Rd_read_93 : decode bb_Rd_read 93 = .ok (.goto (-20), 3) := by decide +kernel
theorem dd_Rd_read_96 : decode bb_Rd_read 96 = .ok (.aload_n 0, 1) := by decide +kernel
theorem dd_Rd_read_97 : decode bb_Rd_read 97 = .ok (.aload_n 0, 1) := by decide +kernel
theorem dd_Rd_read_98 : decode bb_Rd_read 98 = .ok (.getfield 18, 3) := by decide +kernel
theorem dd_Rd_read_101 : decode bb_Rd_read 101 = .ok (.putfield 55, 3) := by decide +kernel
theorem dd_Rd_read_104 : decode bb_Rd_read 104 = .ok (.aload_n 0, 1) := by decide +kernel
theorem dd_Rd_read_105 : decode bb_Rd_read 105 = .ok (.aload_n 0, 1) := by decide +kernel
theorem dd_Rd_read_106 : decode bb_Rd_read 106 = .ok (.invokevirtual 32, 3) := by decide +kernel
theorem dd_Rd_read_109 : decode bb_Rd_read 109 = .ok (.putfield 58, 3) := by decide +kernel
theorem dd_Rd_read_112 : decode bb_Rd_read 112 = .ok (.aload_n 0, 1) := by decide +kernel
theorem dd_Rd_read_113 : decode bb_Rd_read 113 = .ok (.invokevirtual 61, 3) := by decide +kernel
theorem dd_Rd_read_116 : decode bb_Rd_read 116 = .ok (.return_, 1) := by decide +kernel
theorem dd_Rd_expect_0 : decode bb_Rd_expect 0 = .ok (.aload_n 0, 1) := by decide +kernel
theorem dd_Rd_expect_1 : decode bb_Rd_expect 1 = .ok (.getfield 12, 3) := by decide +kernel
theorem dd_Rd_expect_4 : decode bb_Rd_expect 4 = .ok (.aload_n 0, 1) := by decide +kernel
theorem dd_Rd_expect_5 : decode bb_Rd_expect 5 = .ok (.getfield 18, 3) := by decide +kernel
theorem dd_Rd_expect_8 : decode bb_Rd_expect 8 = .ok (.invokevirtual 64, 3) := by decide +kernel
theorem dd_Rd_expect_11 : decode bb_Rd_expect 11 = .ok (.iload_n 1, 1) := by decide +kernel
theorem dd_Rd_expect_12 : decode bb_Rd_expect 12 = .ok (.if_icmp .eq (11), 3) := by decide +kernel
theorem dd_Rd_expect_15 : decode bb_Rd_expect 15 = .ok (.aload_n 0, 1) := by decide +kernel
theorem dd_Rd_expect_16 : decode bb_Rd_expect 16 = .ok (.aload_n 0, 1) := by decide +kernel
theorem dd_Rd_expect_17 : decode bb_Rd_expect 17 = .ok (.getfield 18, 3) := by decide +kernel
theorem dd_Rd_expect_20 : decode bb_Rd_expect 20 = .ok (.invokevirtual 68, 3) := by decide +kernel
theorem dd_Rd_expect_23 : decode bb_Rd_expect 23 = .ok (.aload_n 0, 1) := by decide +kernel
theorem dd_Rd_expect_24 : decode bb_Rd_expect 24 = .ok (.dup, 1) := by decide +kernel
theorem dd_Rd_expect_25 : decode bb_Rd_expect 25 = .ok (.getfield 18, 3) := by decide +kernel
theorem dd_Rd_expect_28 : decode bb_Rd_expect 28 = .ok (.iconst 1, 1) := by decide +kernel
theorem dd_Rd_expect_29 : decode bb_Rd_expect 29 = .ok (.iadd, 1) := by decide +kernel
theorem dd_Rd_expect_30 : decode bb_Rd_expect 30 = .ok (.putfield 18, 3) := by decide +kernel
theorem dd_Rd_expect_33 : decode bb_Rd_expect 33 = .ok (.return_, 1) := by decide +kernel
theorem dd_Rd_fail_0 : decode bb_Rd_fail 0 = .ok (.aload_n 0, 1) := by decide +kernel
theorem dd_Rd_fail_1 : decode bb_Rd_fail 1 = .ok (.getfield 22, 3) := by decide +kernel
theorem dd_Rd_fail_4 : decode bb_Rd_fail 4 = .ok (.iconst (-1), 1) := by decide +kernel
theorem dd_Rd_fail_5 : decode bb_Rd_fail 5 = .ok (.if_icmp .ne (8), 3) := by decide +kernel
theorem dd_Rd_fail_8 : decode bb_Rd_fail 8 = .ok (.aload_n 0, 1) := by decide +kernel
theorem dd_Rd_fail_9 : decode bb_Rd_fail 9 = .ok (.iload_n 1, 1) := by decide +kernel
theorem dd_Rd_fail_10 : decode bb_Rd_fail 10 = .ok (.putfield 22, 3) := by decide +kernel
theorem dd_Rd_fail_13 : decode bb_Rd_fail 13 = .ok (.return_, 1) := by decide +kernel
theorem dd_Rd_skipLength_0 : decode bb_Rd_skipLength 0 = .ok (.aload_n 0, 1) := by decide +kernel
theorem dd_Rd_skipLength_1 : decode bb_Rd_skipLength 1 = .ok (.getfield 12, 3) := by decide +kernel
theorem dd_Rd_skipLength_4 : decode bb_Rd_skipLength 4 = .ok (.aload_n 0, 1) := by decide +kernel
theorem dd_Rd_skipLength_5 : decode bb_Rd_skipLength 5 = .ok (.getfield 18, 3) := by decide +kernel
theorem dd_Rd_skipLength_8 : decode bb_Rd_skipLength 8 = .ok (.invokevirtual 64, 3) := by decide +kernel
theorem dd_Rd_skipLength_11 : decode bb_Rd_skipLength 11 = .ok (.iconst (-1), 1) := by decide +kernel
theorem dd_Rd_skipLength_12 : decode bb_Rd_skipLength 12 = .ok (.if_icmp .ne (11), 3) := by decide +kernel
theorem dd_Rd_skipLength_15 : decode bb_Rd_skipLength 15 = .ok (.aload_n 0, 1) := by decide +kernel
theorem dd_Rd_skipLength_16 : decode bb_Rd_skipLength 16 = .ok (.aload_n 0, 1) := by decide +kernel
theorem dd_Rd_skipLength_17 : decode bb_Rd_skipLength 17 = .ok (.getfield 18, 3) := by decide +kernel
theorem dd_Rd_skipLength_20 : decode bb_Rd_skipLength 20 = .ok (.invokevirtual 68, 3) := by decide +kernel
theorem dd_Rd_skipLength_23 : decode bb_Rd_skipLength 23 = .ok (.aload_n 0, 1) := by decide +kernel
theorem dd_Rd_skipLength_24 : decode bb_Rd_skipLength 24 = .ok (.dup, 1) := by decide +kernel
theorem dd_Rd_skipLength_25 : decode bb_Rd_skipLength 25 = .ok (.getfield 18, 3) := by decide +kernel
theorem dd_Rd_skipLength_28 : decode bb_Rd_skipLength 28 = .ok (.iconst 1, 1) := by decide +kernel
theorem dd_Rd_skipLength_29 : decode bb_Rd_skipLength 29 = .ok (.iadd, 1) := by decide +kernel
theorem dd_Rd_skipLength_30 : decode bb_Rd_skipLength 30 = .ok (.putfield 18, 3) := by decide +kernel
theorem dd_Rd_skipLength_33 : decode bb_Rd_skipLength 33 = .ok (.return_, 1) := by decide +kernel
theorem dd_Rd_readNumber_0 : decode bb_Rd_readNumber 0 = .ok (.aload_n 0, 1) := by decide +kernel
theorem dd_Rd_readNumber_1 : decode bb_Rd_readNumber 1 = .ok (.iconst 2, 1) := by decide +kernel
theorem dd_Rd_readNumber_2 : decode bb_Rd_readNumber 2 = .ok (.invokevirtual 25, 3) := by decide +kernel
theorem dd_Rd_readNumber_5 : decode bb_Rd_readNumber 5 = .ok (.aload_n 0, 1) := by decide +kernel
theorem dd_Rd_readNumber_6 : decode bb_Rd_readNumber 6 = .ok (.getfield 12, 3) := by decide +kernel
theorem dd_Rd_readNumber_9 : decode bb_Rd_readNumber 9 = .ok (.aload_n 0, 1) := by decide +kernel
theorem dd_Rd_readNumber_10 : decode bb_Rd_readNumber 10 = .ok (.getfield 18, 3) := by decide +kernel
theorem dd_Rd_readNumber_13 : decode bb_Rd_readNumber 13 = .ok (.invokevirtual 64, 3) := by decide +kernel
theorem dd_Rd_readNumber_16 : decode bb_Rd_readNumber 16 = .ok (.istore_n 1, 1) := by decide +kernel
theorem dd_Rd_readNumber_17 : decode bb_Rd_readNumber 17 = .ok (.iload_n 1, 1) := by decide +kernel
theorem dd_Rd_readNumber_18 : decode bb_Rd_readNumber 18 = .ok (.iconst 1, 1) := by decide +kernel
theorem dd_Rd_readNumber_19 : decode bb_Rd_readNumber 19 = .ok (.if_icmp .lt (8), 3) := by decide +kernel
theorem dd_Rd_readNumber_27 : decode bb_Rd_readNumber 27 = .ok (.aload_n 0, 1) := by decide +kernel
theorem dd_Rd_readNumber_28 : decode bb_Rd_readNumber 28 = .ok (.aload_n 0, 1) := by decide +kernel
theorem dd_Rd_readNumber_29 : decode bb_Rd_readNumber 29 = .ok (.getfield 18, 3) := by decide +kernel
theorem dd_Rd_readNumber_32 : decode bb_Rd_readNumber 32 = .ok (.invokevirtual 68, 3) := by decide +kernel
theorem dd_Rd_readNumber_35 : decode bb_Rd_readNumber 35 = .ok (.iconst 0, 1) := by decide +kernel
theorem dd_Rd_readNumber_36 : decode bb_Rd_readNumber 36 = .ok (.ireturn, 1) := by decide +kernel
theorem dd_Rd_readId_0 : decode bb_Rd_readId 0 = .ok (.aload_n 0, 1) := by decide +kernel
theorem dd_Rd_readId_1 : decode bb_Rd_readId 1 = .ok (.sipush (134), 3) := by decide +kernel
theorem dd_Rd_readId_4 : decode bb_Rd_readId 4 = .ok (.invokevirtual 25, 3) := by decide +kernel
theorem dd_Rd_readId_7 : decode bb_Rd_readId 7 = .ok (.aload_n 0, 1) := by decide +kernel
theorem dd_Rd_readId_8 : decode bb_Rd_readId 8 = .ok (.getfield 12, 3) := by decide +kernel
theorem dd_Rd_readId_11 : decode bb_Rd_readId 11 = .ok (.aload_n 0, 1) := by decide +kernel
theorem dd_Rd_readId_12 : decode bb_Rd_readId 12 = .ok (.getfield 18, 3) := by decide +kernel
theorem dd_Rd_readId_15 : decode bb_Rd_readId 15 = .ok (.invokevirtual 64, 3) := by decide +kernel
theorem dd_Rd_readId_18 : decode bb_Rd_readId 18 = .ok (.istore_n 1, 1) := by decide +kernel
theorem dd_Rd_readId_19 : decode bb_Rd_readId 19 = .ok (.aload_n 0, 1) := by decide +kernel
theorem dd_Rd_readId_20 : decode bb_Rd_readId 20 = .ok (.getfield 18, 3) := by decide +kernel
theorem dd_Rd_readId_23 : decode bb_Rd_readId 23 = .ok (.iconst 1, 1) := by decide +kernel
theorem dd_Rd_readId_24 : decode bb_Rd_readId 24 = .ok (.iadd, 1) := by decide +kernel
theorem dd_Rd_readId_25 : decode bb_Rd_readId 25 = .ok (.istore_n 2, 1) := by decide +kernel
theorem dd_Rd_readId_26 : decode bb_Rd_readId 26 = .ok (.iload_n 1, 1) := by decide +kernel
theorem dd_Rd_readId_27 : decode bb_Rd_readId 27 = .ok (.iconst (-1), 1) := by decide +kernel
theorem dd_Rd_readId_28 : decode bb_Rd_readId 28 = .ok (.if_icmp .eq (16), 3) := by decide +kernel
theorem dd_Rd_readId_44 : decode bb_Rd_readId 44 = .ok (.aload_n 0, 1) := by decide +kernel
theorem dd_Rd_readId_45 : decode bb_Rd_readId 45 = .ok (.aload_n 0, 1) := by decide +kernel
theorem dd_Rd_readId_46 : decode bb_Rd_readId 46 = .ok (.getfield 18, 3) := by decide +kernel
theorem dd_Rd_readId_49 : decode bb_Rd_readId 49 = .ok (.invokevirtual 68, 3) := by decide +kernel
theorem dd_Rd_readId_52 : decode bb_Rd_readId 52 = .ok (.return_, 1) := by decide +kernel
theorem dd_Rd_checkLengths_0 : decode bb_Rd_checkLengths 0 = .ok (.aload_n 0, 1) := by decide +kernel
theorem dd_Rd_checkLengths_1 : decode bb_Rd_checkLengths 1 = .ok (.getfield 12, 3) := by decide +kernel
theorem dd_Rd_checkLengths_4 : decode bb_Rd_checkLengths 4 = .ok (.iconst 3, 1) := by decide +kernel
theorem dd_Rd_checkLengths_5 : decode bb_Rd_checkLengths 5 = .ok (.invokevirtual 64, 3) := by decide +kernel
theorem dd_Rd_checkLengths_8 : decode bb_Rd_checkLengths 8 = .ok (.aload_n 0, 1) := by decide +kernel
theorem dd_Rd_checkLengths_9 : decode bb_Rd_checkLengths 9 = .ok (.getfield 55, 3) := by decide +kernel
theorem dd_Rd_checkLengths_12 : decode bb_Rd_checkLengths 12 = .ok (.iconst 3, 1) := by decide +kernel
theorem dd_Rd_checkLengths_13 : decode bb_Rd_checkLengths 13 = .ok (.isub, 1) := by decide +kernel
theorem dd_Rd_checkLengths_14 : decode bb_Rd_checkLengths 14 = .ok (.iconst 1, 1) := by decide +kernel
theorem dd_Rd_checkLengths_15 : decode bb_Rd_checkLengths 15 = .ok (.isub, 1) := by decide +kernel
theorem dd_Rd_checkLengths_16 : decode bb_Rd_checkLengths 16 = .ok (.if_icmp .eq (8), 3) := by decide +kernel
theorem dd_Rd_checkLengths_19 : decode bb_Rd_checkLengths 19 = .ok (.aload_n 0, 1) := by decide +kernel
theorem dd_Rd_checkLengths_20 : decode bb_Rd_checkLengths 20 = .ok (.iconst 3, 1) := by decide +kernel
theorem dd_Rd_checkLengths_21 : decode bb_Rd_checkLengths 21 = .ok (.invokevirtual 68, 3) := by decide +kernel
theorem dd_Rd_checkLengths_24 : decode bb_Rd_checkLengths 24 = .ok (.aload_n 0, 1) := by decide +kernel
theorem dd_Rd_checkLengths_25 : decode bb_Rd_checkLengths 25 = .ok (.getfield 18, 3) := by decide +kernel
theorem dd_Rd_checkLengths_28 : decode bb_Rd_checkLengths 28 = .ok (.aload_n 0, 1) := by decide +kernel
theorem dd_Rd_checkLengths_29 : decode bb_Rd_checkLengths 29 = .ok (.getfield 12, 3) := by decide +kernel
theorem dd_Rd_checkLengths_32 : decode bb_Rd_checkLengths 32 = .ok (.invokevirtual 71, 3) := by decide +kernel
theorem dd_Rd_checkLengths_35 : decode bb_Rd_checkLengths 35 = .ok (.if_icmp .ge (11), 3) := by decide +kernel
theorem dd_Rd_checkLengths_46 : decode bb_Rd_checkLengths 46 = .ok (.aload_n 0, 1) := by decide +kernel
theorem dd_Rd_checkLengths_47 : decode bb_Rd_checkLengths 47 = .ok (.getfield 12, 3) := by decide +kernel
theorem dd_Rd_checkLengths_50 : decode bb_Rd_checkLengths 50 = .ok (.iconst 1, 1) := by decide +kernel
theorem dd_Rd_checkLengths_51 : decode bb_Rd_checkLengths 51 = .ok (.invokevirtual 64, 3) := by decide +kernel
theorem dd_Rd_checkLengths_54 : decode bb_Rd_checkLengths 54 = .ok (.aload_n 0, 1) := by decide +kernel
theorem dd_Rd_checkLengths_55 : decode bb_Rd_checkLengths 55 = .ok (.getfield 18, 3) := by decide +kernel
theorem dd_Rd_checkLengths_58 : decode bb_Rd_checkLengths 58 = .ok (.iconst 1, 1) := by decide +kernel
theorem dd_Rd_checkLengths_59 : decode bb_Rd_checkLengths 59 = .ok (.isub, 1) := by decide +kernel
theorem dd_Rd_checkLengths_60 : decode bb_Rd_checkLengths 60 = .ok (.iconst 1, 1) := by decide +kernel
theorem dd_Rd_checkLengths_61 : decode bb_Rd_checkLengths 61 = .ok (.isub, 1) := by decide +kernel
theorem dd_Rd_checkLengths_62 : decode bb_Rd_checkLengths 62 = .ok (.if_icmp .eq (8), 3) := by decide +kernel
theorem dd_Rd_checkLengths_65 : decode bb_Rd_checkLengths 65 = .ok (.aload_n 0, 1) := by decide +kernel
theorem dd_Rd_checkLengths_66 : decode bb_Rd_checkLengths 66 = .ok (.iconst 1, 1) := by decide +kernel
theorem dd_Rd_checkLengths_67 : decode bb_Rd_checkLengths 67 = .ok (.invokevirtual 68, 3) := by decide +kernel
theorem dd_Rd_checkLengths_70 : decode bb_Rd_checkLengths 70 = .ok (.return_, 1) := by decide +kernel

