theorem dd_Wr_init_0 : decode bb_Wr_init 0 = .ok (.aload_n 0, 1) := by decide +kernel
theorem dd_Wr_init_1 : decode bb_Wr_init 1 = .ok (.invokespecial 3, 3) := by decide +kernel
theorem dd_Wr_init_4 : decode bb_Wr_init 4 = .ok (.aload_n 0, 1) := by decide +kernel
theorem dd_Wr_init_5 : decode bb_Wr_init 5 = .ok (.new 9, 3) := by decide +kernel
theorem dd_Wr_init_8 : decode bb_Wr_init 8 = .ok (.dup, 1) := by decide +kernel
theorem dd_Wr_init_9 : decode bb_Wr_init 9 = .ok (.invokespecial 11, 3) := by decide +kernel
theorem dd_Wr_init_12 : decode bb_Wr_init 12 = .ok (.putfield 12, 3) := by decide +kernel
theorem dd_Wr_init_15 : decode bb_Wr_init 15 = .ok (.return_, 1) := by decide +kernel
theorem dd_Wr_write_0 : decode bb_Wr_write 0 = .ok (.aload_n 1, 1) := by decide +kernel
theorem dd_Wr_write_1 : decode bb_Wr_write 1 = .ok (.getfield 18, 3) := by decide +kernel
theorem dd_Wr_write_4 : decode bb_Wr_write 4 = .ok (.aload_n 0, 1) := by decide +kernel
theorem dd_Wr_write_5 : decode bb_Wr_write 5 = .ok (.getfield 24, 3) := by decide +kernel
theorem dd_Wr_write_8 : decode bb_Wr_write 8 = .ok (.if_icmp .eq (88), 3) := by decide +kernel
theorem dd_Wr_write_11 : decode bb_Wr_write 11 = .ok (.aload_n 0, 1) := by decide +kernel
theorem dd_Wr_write_12 : decode bb_Wr_write 12 = .ok (.aload_n 1, 1) := by decide +kernel
theorem dd_Wr_write_13 : decode bb_Wr_write 13 = .ok (.getfield 18, 3) := by decide +kernel
theorem dd_Wr_write_16 : decode bb_Wr_write 16 = .ok (.putfield 24, 3) := by decide +kernel
theorem dd_Wr_write_19 : decode bb_Wr_write 19 = .ok (.aload_n 0, 1) := by decide +kernel
theorem dd_Wr_write_20 : decode bb_Wr_write 20 = .ok (.getfield 12, 3) := by decide +kernel
theorem dd_Wr_write_23 : decode bb_Wr_write 23 = .ok (.invokevirtual 27, 3) := by decide +kernel
theorem dd_Wr_write_26 : decode bb_Wr_write 26 = .ok (.aload_n 0, 1) := by decide +kernel
theorem dd_Wr_write_27 : decode bb_Wr_write 27 = .ok (.getfield 12, 3) := by decide +kernel
theorem dd_Wr_write_30 : decode bb_Wr_write 30 = .ok (.bipush (48), 2) := by decide +kernel
theorem dd_Wr_write_32 : decode bb_Wr_write 32 = .ok (.invokevirtual 30, 3) := by decide +kernel
theorem dd_Wr_write_35 : decode bb_Wr_write 35 = .ok (.aload_n 0, 1) := by decide +kernel
theorem dd_Wr_write_36 : decode bb_Wr_write 36 = .ok (.getfield 12, 3) := by decide +kernel
theorem dd_Wr_write_39 : decode bb_Wr_write 39 = .ok (.iconst 0, 1) := by decide +kernel
theorem dd_Wr_write_40 : decode bb_Wr_write 40 = .ok (.invokevirtual 30, 3) := by decide +kernel
theorem dd_Wr_write_43 : decode bb_Wr_write 43 = .ok (.aload_n 0, 1) := by decide +kernel
theorem dd_Wr_write_44 : decode bb_Wr_write 44 = .ok (.aload_n 1, 1) := by decide +kernel
theorem dd_Wr_write_45 : decode bb_Wr_write 45 = .ok (.aload_n 2, 1) := by decide +kernel
theorem dd_Wr_write_46 : decode bb_Wr_write 46 = .ok (.invokevirtual 34, 3) := by decide +kernel
theorem dd_Wr_write_49 : decode bb_Wr_write 49 = .ok (.aload_n 0, 1) := by decide +kernel
theorem dd_Wr_write_50 : decode bb_Wr_write 50 = .ok (.getfield 12, 3) := by decide +kernel
theorem dd_Wr_write_53 : decode bb_Wr_write 53 = .ok (.iconst 2, 1) := by decide +kernel
theorem dd_Wr_write_54 : decode bb_Wr_write 54 = .ok (.aload_n 0, 1) := by decide +kernel
theorem dd_Wr_write_55 : decode bb_Wr_write 55 = .ok (.getfield 12, 3) := by decide +kernel
theorem dd_Wr_write_58 : decode bb_Wr_write 58 = .ok (.invokevirtual 38, 3) := by decide +kernel
theorem dd_Wr_write_61 : decode bb_Wr_write 61 = .ok (.invokevirtual 42, 3) := by decide +kernel
theorem dd_Wr_write_64 : decode bb_Wr_write 64 = .ok (.istore_n 3, 1) := by decide +kernel
theorem dd_Wr_write_65 : decode bb_Wr_write 65 = .ok (.aload_n 0, 1) := by decide +kernel
theorem dd_Wr_write_66 : decode bb_Wr_write 66 = .ok (.iload_n 3, 1) := by decide +kernel
theorem dd_Wr_write_67 : decode bb_Wr_write 67 = .ok (.aload_n 1, 1) := by decide +kernel
theorem dd_Wr_write_68 : decode bb_Wr_write 68 = .ok (.getfield 46, 3) := by decide +kernel
theorem dd_Wr_write_71 : decode bb_Wr_write 71 = .ok (.invokestatic 49, 3) := by decide +kernel
theorem dd_Wr_write_74 : decode bb_Wr_write 74 = .ok (.invokevirtual 54, 3) := by decide +kernel
theorem dd_Wr_write_77 : decode bb_Wr_write 77 = .ok (.aload_n 0, 1) := by decide +kernel
theorem dd_Wr_write_78 : decode bb_Wr_write 78 = .ok (.getfield 12, 3) := by decide +kernel
theorem dd_Wr_write_81 : decode bb_Wr_write 81 = .ok (.iconst 1, 1) := by decide +kernel
theorem dd_Wr_write_82 : decode bb_Wr_write 82 = .ok (.aload_n 0, 1) := by decide +kernel
theorem dd_Wr_write_83 : decode bb_Wr_write 83 = .ok (.getfield 12, 3) := by decide +kernel
theorem dd_Wr_write_86 : decode bb_Wr_write 86 = .ok (.invokevirtual 38, 3) := by decide +kernel
theorem dd_Wr_write_89 : decode bb_Wr_write 89 = .ok (.iconst 1, 1) := by decide +kernel
theorem dd_Wr_write_90 : decode bb_Wr_write 90 = .ok (.isub, 1) := by decide +kernel
theorem dd_Wr_write_91 : decode bb_Wr_write 91 = .ok (.iconst 1, 1) := by decide +kernel
theorem dd_Wr_write_92 : decode bb_Wr_write 92 = .ok (.isub, 1) := by decide +kernel
theorem dd_Wr_write_93 : decode bb_Wr_write 93 = .ok (.invokevirtual 57, 3) := by decide +kernel
theorem dd_Wr_write_96 : decode bb_Wr_write 96 = .ok (.aload_n 0, 1) := by decide +kernel
theorem dd_Wr_write_97 : decode bb_Wr_write 97 = .ok (.getfield 12, 3) := by decide +kernel
theorem dd_Wr_write_100 : decode bb_Wr_write 100 = .ok (.areturn, 1) := by decide +kernel
theorem dd_Wr_writeBody_0 : decode bb_Wr_writeBody 0 = .ok (.aload_n 0, 1) := by decide +kernel
theorem dd_Wr_writeBody_1 : decode bb_Wr_writeBody 1 = .ok (.getfield 12, 3) := by decide +kernel
theorem dd_Wr_writeBody_4 : decode bb_Wr_writeBody 4 = .ok (.bipush (48), 2) := by decide +kernel
theorem dd_Wr_writeBody_6 : decode bb_Wr_writeBody 6 = .ok (.invokevirtual 30, 3) := by decide +kernel
theorem dd_Wr_writeBody_9 : decode bb_Wr_writeBody 9 = .ok (.aload_n 0, 1) := by decide +kernel
theorem dd_Wr_writeBody_10 : decode bb_Wr_writeBody 10 = .ok (.getfield 12, 3) := by decide +kernel
theorem dd_Wr_writeBody_13 : decode bb_Wr_writeBody 13 = .ok (.iconst 0, 1) := by decide +kernel
theorem dd_Wr_writeBody_14 : decode bb_Wr_writeBody 14 = .ok (.invokevirtual 30, 3) := by decide +kernel
theorem dd_Wr_writeBody_17 : decode bb_Wr_writeBody 17 = .ok (.aload_n 0, 1) := by decide +kernel
theorem dd_Wr_writeBody_18 : decode bb_Wr_writeBody 18 = .ok (.aload_n 1, 1) := by decide +kernel
theorem dd_Wr_writeBody_19 : decode bb_Wr_writeBody 19 = .ok (.getfield 18, 3) := by decide +kernel
theorem dd_Wr_writeBody_22 : decode bb_Wr_writeBody 22 = .ok (.invokevirtual 54, 3) := by decide +kernel
theorem dd_Wr_writeBody_25 : decode bb_Wr_writeBody 25 = .ok (.aload_n 0, 1) := by decide +kernel
theorem dd_Wr_writeBody_26 : decode bb_Wr_writeBody 26 = .ok (.aload_n 1, 1) := by decide +kernel
theorem dd_Wr_writeBody_27 : decode bb_Wr_writeBody 27 = .ok (.getfield 46, 3) := by decide +kernel
theorem dd_Wr_writeBody_30 : decode bb_Wr_writeBody 30 = .ok (.invokevirtual 54, 3) := by decide +kernel
theorem dd_Wr_writeBody_33 : decode bb_Wr_writeBody 33 = .ok (.aload_n 0, 1) := by decide +kernel
theorem dd_Wr_writeBody_34 : decode bb_Wr_writeBody 34 = .ok (.aload_n 1, 1) := by decide +kernel
theorem dd_Wr_writeBody_35 : decode bb_Wr_writeBody 35 = .ok (.getfield 61, 3) := by decide +kernel
theorem dd_Wr_writeBody_38 : decode bb_Wr_writeBody 38 = .ok (.invokevirtual 54, 3) := by decide +kernel
theorem dd_Wr_writeBody_41 : decode bb_Wr_writeBody 41 = .ok (.aload_n 0, 1) := by decide +kernel
theorem dd_Wr_writeBody_42 : decode bb_Wr_writeBody 42 = .ok (.aload_n 1, 1) := by decide +kernel
theorem dd_Wr_writeBody_43 : decode bb_Wr_writeBody 43 = .ok (.getfield 64, 3) := by decide +kernel
theorem dd_Wr_writeBody_46 : decode bb_Wr_writeBody 46 = .ok (.invokevirtual 54, 3) := by decide +kernel
theorem dd_Wr_writeBody_49 : decode bb_Wr_writeBody 49 = .ok (.aload_n 0, 1) := by decide +kernel
theorem dd_Wr_writeBody_50 : decode bb_Wr_writeBody 50 = .ok (.getfield 12, 3) := by decide +kernel
theorem dd_Wr_writeBody_53 : decode bb_Wr_writeBody 53 = .ok (.sipush (134), 3) := by decide +kernel
theorem dd_Wr_writeBody_56 : decode bb_Wr_writeBody 56 = .ok (.invokevirtual 30, 3) := by decide +kernel
theorem dd_Wr_writeBody_59 : decode bb_Wr_writeBody 59 = .ok (.aload_n 2, 1) := by decide +kernel
theorem dd_Wr_writeBody_60 : decode bb_Wr_writeBody 60 = .ok (.aload_n 0, 1) := by decide +kernel
theorem dd_Wr_writeBody_61 : decode bb_Wr_writeBody 61 = .ok (.getfield 12, 3) := by decide +kernel
theorem dd_Wr_writeBody_64 : decode bb_Wr_writeBody 64 = .ok (.aload_n 1, 1) := by decide +kernel
theorem dd_Wr_writeBody_65 : decode bb_Wr_writeBody 65 = .ok (.getfield 67, 3) := by decide +kernel
theorem dd_Wr_writeBody_68 : decode bb_Wr_writeBody 68 = .ok (.getfield 71, 3) := by decide +kernel
theorem dd_Wr_writeBody_71 : decode bb_Wr_writeBody 71 = .ok (.invokevirtual 76, 3) := by decide +kernel
theorem dd_Wr_writeBody_74 : decode bb_Wr_writeBody 74 = .ok (.iconst 0, 1) := by decide +kernel
theorem dd_Wr_writeBody_75 : decode bb_Wr_writeBody 75 = .ok (.istore_n 3, 1) := by decide +kernel
theorem dd_Wr_writeBody_76 : decode bb_Wr_writeBody 76 = .ok (.iload_n 3, 1) := by decide +kernel
theorem dd_Wr_writeBody_77 : decode bb_Wr_writeBody 77 = .ok (.getstatic 82, 3) := by decide +kernel
theorem dd_Wr_writeBody_80 : decode bb_Wr_writeBody 80 = .ok (.arraylength, 1) := by decide +kernel
theorem dd_Wr_writeBody_81 : decode bb_Wr_writeBody 81 = .ok (.if_icmp .ge (21), 3) := by decide +kernel
theorem dd_Wr_writeBody_84 : decode bb_Wr_writeBody 84 = .ok (.aload_n 0, 1) := by decide +kernel
theorem dd_Wr_writeBody_85 : decode bb_Wr_writeBody 85 = .ok (.getfield 12, 3) := by decide +kernel
theorem dd_Wr_writeBody_88 : decode bb_Wr_writeBody 88 = .ok (.getstatic 82, 3) := by decide +kernel
theorem dd_Wr_writeBody_91 : decode bb_Wr_writeBody 91 = .ok (.iload_n 3, 1) := by decide +kernel
theorem dd_Wr_writeBody_92 : decode bb_Wr_writeBody 92 = .ok (.iaload, 1) := by decide +kernel
theorem dd_Wr_writeBody_93 : decode bb_Wr_writeBody 93 = .ok (.invokevirtual 30, 3) := by decide +kernel
theorem dd_Wr_writeBody_96 : decode bb_Wr_writeBody 96 = .ok (.iinc 3 (1), 3) := by decide +kernel
theorem dd_Wr_writeBody_99 : decode bb_Wr_writeBody 99 = .ok (.goto (-23), 3) := by decide +kernel
theorem dd_Wr_writeBody_102 : decode bb_Wr_writeBody 102 = .ok (.aload_n 0, 1) := by decide +kernel
theorem dd_Wr_writeBody_103 : decode bb_Wr_writeBody 103 = .ok (.getfield 12, 3) := by decide +kernel
theorem dd_Wr_writeBody_106 : decode bb_Wr_writeBody 106 = .ok (.iconst 3, 1) := by decide +kernel
theorem dd_Wr_writeBody_107 : decode bb_Wr_writeBody 107 = .ok (.aload_n 0, 1) := by decide +kernel
theorem dd_Wr_writeBody_108 : decode bb_Wr_writeBody 108 = .ok (.getfield 12, 3) := by decide +kernel
theorem dd_Wr_writeBody_111 : decode bb_Wr_writeBody 111 = .ok (.invokevirtual 38, 3) := by decide +kernel
theorem dd_Wr_writeBody_114 : decode bb_Wr_writeBody 114 = .ok (.iconst 3, 1) := by decide +kernel
theorem dd_Wr_writeBody_115 : decode bb_Wr_writeBody 115 = .ok (.isub, 1) := by decide +kernel
theorem dd_Wr_writeBody_116 : decode bb_Wr_writeBody 116 = .ok (.iconst 1, 1) := by decide +kernel
theorem dd_Wr_writeBody_117 : decode bb_Wr_writeBody 117 = .ok (.isub, 1) := by decide +kernel
theorem dd_Wr_writeBody_118 : decode bb_Wr_writeBody 118 = .ok (.invokevirtual 57, 3) := by decide +kernel
theorem dd_Wr_writeBody_121 : decode bb_Wr_writeBody 121 = .ok (.return_, 1) := by decide +kernel
theorem dd_Wr_writeNumber_0 : decode bb_Wr_writeNumber 0 = .ok (.iconst 1, 1) := by decide +kernel
theorem dd_Wr_writeNumber_1 : decode bb_Wr_writeNumber 1 = .ok (.istore_n 2, 1) := by decide +kernel
theorem dd_Wr_writeNumber_2 : decode bb_Wr_writeNumber 2 = .ok (.iload_n 2, 1) := by decide +kernel
theorem dd_Wr_writeNumber_3 : decode bb_Wr_writeNumber 3 = .ok (.iconst 4, 1) := by decide +kernel
theorem dd_Wr_writeNumber_4 : decode bb_Wr_writeNumber 4 = .ok (.if_icmp .ge (20), 3) := by decide +kernel
theorem dd_Wr_writeNumber_7 : decode bb_Wr_writeNumber 7 = .ok (.iload_n 1, 1) := by decide +kernel
theorem dd_Wr_writeNumber_8 : decode bb_Wr_writeNumber 8 = .ok (.bipush (8), 2) := by decide +kernel
theorem dd_Wr_writeNumber_10 : decode bb_Wr_writeNumber 10 = .ok (.iload_n 2, 1) := by decide +kernel
theorem dd_Wr_writeNumber_11 : decode bb_Wr_writeNumber 11 = .ok (.imul, 1) := by decide +kernel
theorem dd_Wr_writeNumber_12 : decode bb_Wr_writeNumber 12 = .ok (.iconst 1, 1) := by decide +kernel
theorem dd_Wr_writeNumber_13 : decode bb_Wr_writeNumber 13 = .ok (.isub, 1) := by decide +kernel
theorem dd_Wr_writeNumber_14 : decode bb_Wr_writeNumber 14 = .ok (.iushr, 1) := by decide +kernel
theorem dd_Wr_writeNumber_15 : decode bb_Wr_writeNumber 15 = .ok (.ifCond .eq (9), 3) := by decide +kernel
theorem dd_Wr_writeNumber_18 : decode bb_Wr_writeNumber 18 = .ok (.iinc 2 (1), 3) := by decide +kernel
theorem dd_Wr_writeNumber_21 : decode bb_Wr_writeNumber 21 = .ok (.goto (-19), 3) := by decide +kernel
theorem dd_Wr_writeNumber_24 : decode bb_Wr_writeNumber 24 = .ok (.aload_n 0, 1) := by decide +kernel
theorem dd_Wr_writeNumber_25 : decode bb_Wr_writeNumber 25 = .ok (.getfield 12, 3) := by decide +kernel
theorem dd_Wr_writeNumber_28 : decode bb_Wr_writeNumber 28 = .ok (.iconst 2, 1) := by decide +kernel
theorem dd_Wr_writeNumber_29 : decode bb_Wr_writeNumber 29 = .ok (.invokevirtual 30, 3) := by decide +kernel
theorem dd_Wr_writeNumber_32 : decode bb_Wr_writeNumber 32 = .ok (.aload_n 0, 1) := by decide +kernel
theorem dd_Wr_writeNumber_33 : decode bb_Wr_writeNumber 33 = .ok (.getfield 12, 3) := by decide +kernel
theorem dd_Wr_writeNumber_36 : decode bb_Wr_writeNumber 36 = .ok (.iload_n 2, 1) := by decide +kernel
theorem dd_Wr_writeNumber_37 : decode bb_Wr_writeNumber 37 = .ok (.invokevirtual 30, 3) := by decide +kernel
theorem dd_Wr_writeNumber_40 : decode bb_Wr_writeNumber 40 = .ok (.iload_n 2, 1) := by decide +kernel
theorem dd_Wr_writeNumber_41 : decode bb_Wr_writeNumber 41 = .ok (.iconst 1, 1) := by decide +kernel
theorem dd_Wr_writeNumber_42 : decode bb_Wr_writeNumber 42 = .ok (.isub, 1) := by decide +kernel
theorem dd_Wr_writeNumber_43 : decode bb_Wr_writeNumber 43 = .ok (.istore_n 3, 1) := by decide +kernel
theorem dd_Wr_writeNumber_44 : decode bb_Wr_writeNumber 44 = .ok (.iload_n 3, 1) := by decide +kernel
theorem dd_Wr_writeNumber_45 : decode bb_Wr_writeNumber 45 = .ok (.ifCond .lt (26), 3) := by decide +kernel
theorem dd_Wr_writeNumber_48 : decode bb_Wr_writeNumber 48 = .ok (.aload_n 0, 1) := by decide +kernel
theorem dd_Wr_writeNumber_49 : decode bb_Wr_writeNumber 49 = .ok (.getfield 12, 3) := by decide +kernel
theorem dd_Wr_writeNumber_52 : decode bb_Wr_writeNumber 52 = .ok (.iload_n 1, 1) := by decide +kernel
theorem dd_Wr_writeNumber_53 : decode bb_Wr_writeNumber 53 = .ok (.bipush (8), 2) := by decide +kernel
theorem dd_Wr_writeNumber_55 : decode bb_Wr_writeNumber 55 = .ok (.iload_n 3, 1) := by decide +kernel
theorem dd_Wr_writeNumber_56 : decode bb_Wr_writeNumber 56 = .ok (.imul, 1) := by decide +kernel
theorem dd_Wr_writeNumber_57 : decode bb_Wr_writeNumber 57 = .ok (.iushr, 1) := by decide +kernel
theorem dd_Wr_writeNumber_58 : decode bb_Wr_writeNumber 58 = .ok (.sipush (255), 3) := by decide +kernel
theorem dd_Wr_writeNumber_61 : decode bb_Wr_writeNumber 61 = .ok (.iand, 1) := by decide +kernel
theorem dd_Wr_writeNumber_62 : decode bb_Wr_writeNumber 62 = .ok (.invokevirtual 30, 3) := by decide +kernel
theorem dd_Wr_writeNumber_65 : decode bb_Wr_writeNumber 65 = .ok (.iinc 3 (-1), 3) := by decide +kernel
theorem dd_Wr_writeNumber_68 : decode bb_Wr_writeNumber 68 = .ok (.goto (-24), 3) := by decide +kernel
theorem dd_Wr_writeNumber_71 : decode bb_Wr_writeNumber 71 = .ok (.return_, 1) := by decide +kernel
