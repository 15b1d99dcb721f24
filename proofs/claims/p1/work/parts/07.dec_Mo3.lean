theorem dd_Mo_svid_0 : decode bb_Mo_svid 0 = .ok (.iload_n 1, 1) := by decide +kernel
theorem dd_Mo_svid_1 : decode bb_Mo_svid 1 = .ok (.iconst 0, 1) := by decide +kernel
theorem dd_Mo_svid_2 : decode bb_Mo_svid 2 = .ok (.aload_n 0, 1) := by decide +kernel
theorem dd_Mo_svid_3 : decode bb_Mo_svid 3 = .ok (.getfield 208, 3) := by decide +kernel
theorem dd_Mo_svid_6 : decode bb_Mo_svid 6 = .ok (.iconst 1, 1) := by decide +kernel
theorem dd_Mo_svid_7 : decode bb_Mo_svid 7 = .ok (.isub, 1) := by decide +kernel
theorem dd_Mo_svid_8 : decode bb_Mo_svid 8 = .ok (.invokestatic 118, 3) := by decide +kernel
theorem dd_Mo_svid_11 : decode bb_Mo_svid 11 = .ok (.ifCond .ne (12), 3) := by decide +kernel
theorem dd_Mo_svid_23 : decode bb_Mo_svid 23 = .ok (.sipush (-1001), 3) := by decide +kernel
theorem dd_Mo_svid_26 : decode bb_Mo_svid 26 = .ok (.goto (13), 3) := by decide +kernel
theorem dd_Mo_svid_39 : decode bb_Mo_svid 39 = .ok (.ireturn, 1) := by decide +kernel
theorem dd_Mo_key_0 : decode bb_Mo_key 0 = .ok (.iload_n 1, 1) := by decide +kernel
theorem dd_Mo_key_1 : decode bb_Mo_key 1 = .ok (.iconst 0, 1) := by decide +kernel
theorem dd_Mo_key_2 : decode bb_Mo_key 2 = .ok (.aload_n 0, 1) := by decide +kernel
theorem dd_Mo_key_3 : decode bb_Mo_key 3 = .ok (.getfield 211, 3) := by decide +kernel
theorem dd_Mo_key_6 : decode bb_Mo_key 6 = .ok (.iconst 1, 1) := by decide +kernel
theorem dd_Mo_key_7 : decode bb_Mo_key 7 = .ok (.isub, 1) := by decide +kernel
theorem dd_Mo_key_8 : decode bb_Mo_key 8 = .ok (.invokestatic 118, 3) := by decide +kernel
theorem dd_Mo_key_11 : decode bb_Mo_key 11 = .ok (.ifCond .eq (9), 3) := by decide +kernel
theorem dd_Mo_key_14 : decode bb_Mo_key 14 = .ok (.sipush (-1001), 3) := by decide +kernel
theorem dd_Mo_key_17 : decode bb_Mo_key 17 = .ok (.goto (9), 3) := by decide +kernel
theorem dd_Mo_key_20 : decode bb_Mo_key 20 = .ok (.aload_n 0, 1) := by decide +kernel
theorem dd_Mo_key_21 : decode bb_Mo_key 21 = .ok (.getfield 99, 3) := by decide +kernel
theorem dd_Mo_key_24 : decode bb_Mo_key 24 = .ok (.iload_n 1, 1) := by decide +kernel
theorem dd_Mo_key_25 : decode bb_Mo_key 25 = .ok (.iaload, 1) := by decide +kernel
theorem dd_Mo_key_26 : decode bb_Mo_key 26 = .ok (.ireturn, 1) := by decide +kernel
theorem dd_Mo_friends_0 : decode bb_Mo_friends 0 = .ok (.aload_n 0, 1) := by decide +kernel
theorem dd_Mo_friends_1 : decode bb_Mo_friends 1 = .ok (.getfield 217, 3) := by decide +kernel
theorem dd_Mo_friends_4 : decode bb_Mo_friends 4 = .ok (.ireturn, 1) := by decide +kernel
theorem dd_Mo_written_0 : decode bb_Mo_written 0 = .ok (.iload_n 1, 1) := by decide +kernel
theorem dd_Mo_written_1 : decode bb_Mo_written 1 = .ok (.iconst 0, 1) := by decide +kernel
theorem dd_Mo_written_2 : decode bb_Mo_written 2 = .ok (.aload_n 0, 1) := by decide +kernel
theorem dd_Mo_written_3 : decode bb_Mo_written 3 = .ok (.getfield 208, 3) := by decide +kernel
theorem dd_Mo_written_6 : decode bb_Mo_written 6 = .ok (.iconst 1, 1) := by decide +kernel
theorem dd_Mo_written_7 : decode bb_Mo_written 7 = .ok (.isub, 1) := by decide +kernel
theorem dd_Mo_written_8 : decode bb_Mo_written 8 = .ok (.invokestatic 118, 3) := by decide +kernel
theorem dd_Mo_written_11 : decode bb_Mo_written 11 = .ok (.ifCond .eq (7), 3) := by decide +kernel
theorem dd_Mo_written_14 : decode bb_Mo_written 14 = .ok (.sipush (-1001), 3) := by decide +kernel
theorem dd_Mo_written_17 : decode bb_Mo_written 17 = .ok (.ireturn, 1) := by decide +kernel
theorem dd_Mo_verify_0 : decode bb_Mo_verify 0 = .ok (.aload_n 0, 1) := by decide +kernel
theorem dd_Mo_verify_1 : decode bb_Mo_verify 1 = .ok (.invokevirtual 307, 3) := by decide +kernel
theorem dd_Mo_verify_4 : decode bb_Mo_verify 4 = .ok (.istore_n 1, 1) := by decide +kernel
theorem dd_Mo_verify_5 : decode bb_Mo_verify 5 = .ok (.aload_n 0, 1) := by decide +kernel
theorem dd_Mo_verify_6 : decode bb_Mo_verify 6 = .ok (.iconst 0, 1) := by decide +kernel
theorem dd_Mo_verify_7 : decode bb_Mo_verify 7 = .ok (.putfield 122, 3) := by decide +kernel
theorem dd_Mo_verify_10 : decode bb_Mo_verify 10 = .ok (.iload_n 1, 1) := by decide +kernel
theorem dd_Mo_verify_11 : decode bb_Mo_verify 11 = .ok (.ireturn, 1) := by decide +kernel
theorem dd_Mo_verified_0 : decode bb_Mo_verified 0 = .ok (.aload_n 0, 1) := by decide +kernel
theorem dd_Mo_verified_1 : decode bb_Mo_verified 1 = .ok (.iconst 0, 1) := by decide +kernel
theorem dd_Mo_verified_2 : decode bb_Mo_verified 2 = .ok (.putfield 291, 3) := by decide +kernel
theorem dd_Mo_verified_5 : decode bb_Mo_verified 5 = .ok (.aload_n 0, 1) := by decide +kernel
theorem dd_Mo_verified_6 : decode bb_Mo_verified 6 = .ok (.iconst (-1), 1) := by decide +kernel
theorem dd_Mo_verified_7 : decode bb_Mo_verified 7 = .ok (.putfield 288, 3) := by decide +kernel
theorem dd_Mo_verified_10 : decode bb_Mo_verified 10 = .ok (.aload_n 0, 1) := by decide +kernel
theorem dd_Mo_verified_11 : decode bb_Mo_verified 11 = .ok (.bipush (48), 2) := by decide +kernel
theorem dd_Mo_verified_13 : decode bb_Mo_verified 13 = .ok (.bipush (48), 2) := by decide +kernel
theorem dd_Mo_verified_15 : decode bb_Mo_verified 15 = .ok (.invokevirtual 297, 3) := by decide +kernel
theorem dd_Mo_verified_18 : decode bb_Mo_verified 18 = .ok (.pop, 1) := by decide +kernel
theorem dd_Mo_verified_19 : decode bb_Mo_verified 19 = .ok (.aload_n 0, 1) := by decide +kernel
theorem dd_Mo_verified_20 : decode bb_Mo_verified 20 = .ok (.iconst 0, 1) := by decide +kernel
theorem dd_Mo_verified_21 : decode bb_Mo_verified 21 = .ok (.sipush (255), 3) := by decide +kernel
theorem dd_Mo_verified_24 : decode bb_Mo_verified 24 = .ok (.invokevirtual 297, 3) := by decide +kernel
theorem dd_Mo_verified_27 : decode bb_Mo_verified 27 = .ok (.istore_n 1, 1) := by decide +kernel
theorem dd_Mo_verified_28 : decode bb_Mo_verified 28 = .ok (.aload_n 0, 1) := by decide +kernel
theorem dd_Mo_verified_29 : decode bb_Mo_verified 29 = .ok (.bipush (48), 2) := by decide +kernel
theorem dd_Mo_verified_31 : decode bb_Mo_verified 31 = .ok (.bipush (48), 2) := by decide +kernel
theorem dd_Mo_verified_33 : decode bb_Mo_verified 33 = .ok (.invokevirtual 297, 3) := by decide +kernel
theorem dd_Mo_verified_36 : decode bb_Mo_verified 36 = .ok (.pop, 1) := by decide +kernel
theorem dd_Mo_verified_37 : decode bb_Mo_verified 37 = .ok (.aload_n 0, 1) := by decide +kernel
theorem dd_Mo_verified_38 : decode bb_Mo_verified 38 = .ok (.iconst 0, 1) := by decide +kernel
theorem dd_Mo_verified_39 : decode bb_Mo_verified 39 = .ok (.sipush (255), 3) := by decide +kernel
theorem dd_Mo_verified_42 : decode bb_Mo_verified 42 = .ok (.invokevirtual 297, 3) := by decide +kernel
theorem dd_Mo_verified_45 : decode bb_Mo_verified 45 = .ok (.istore_n 2, 1) := by decide +kernel
theorem dd_Mo_verified_46 : decode bb_Mo_verified 46 = .ok (.aload_n 0, 1) := by decide +kernel
theorem dd_Mo_verified_47 : decode bb_Mo_verified 47 = .ok (.invokevirtual 300, 3) := by decide +kernel
theorem dd_Mo_verified_50 : decode bb_Mo_verified 50 = .ok (.istore_n 3, 1) := by decide +kernel
theorem dd_Mo_verified_51 : decode bb_Mo_verified 51 = .ok (.aload_n 0, 1) := by decide +kernel
theorem dd_Mo_verified_52 : decode bb_Mo_verified 52 = .ok (.invokevirtual 300, 3) := by decide +kernel
theorem dd_Mo_verified_55 : decode bb_Mo_verified 55 = .ok (.istore 4, 2) := by decide +kernel
theorem dd_Mo_verified_57 : decode bb_Mo_verified 57 = .ok (.aload_n 0, 1) := by decide +kernel
theorem dd_Mo_verified_58 : decode bb_Mo_verified 58 = .ok (.invokevirtual 300, 3) := by decide +kernel
theorem dd_Mo_verified_61 : decode bb_Mo_verified 61 = .ok (.istore 5, 2) := by decide +kernel
theorem dd_Mo_verified_63 : decode bb_Mo_verified 63 = .ok (.aload_n 0, 1) := by decide +kernel
theorem dd_Mo_verified_64 : decode bb_Mo_verified 64 = .ok (.invokevirtual 300, 3) := by decide +kernel
theorem dd_Mo_verified_67 : decode bb_Mo_verified 67 = .ok (.istore 6, 2) := by decide +kernel
theorem dd_Mo_verified_69 : decode bb_Mo_verified 69 = .ok (.aload_n 0, 1) := by decide +kernel
theorem dd_Mo_verified_70 : decode bb_Mo_verified 70 = .ok (.invokevirtual 304, 3) := by decide +kernel
theorem dd_Mo_verified_73 : decode bb_Mo_verified 73 = .ok (.aload_n 0, 1) := by decide +kernel
theorem dd_Mo_verified_74 : decode bb_Mo_verified 74 = .ok (.iconst 3, 1) := by decide +kernel
theorem dd_Mo_verified_75 : decode bb_Mo_verified 75 = .ok (.iconst 3, 1) := by decide +kernel
theorem dd_Mo_verified_76 : decode bb_Mo_verified 76 = .ok (.invokevirtual 297, 3) := by decide +kernel
theorem dd_Mo_verified_79 : decode bb_Mo_verified 79 = .ok (.pop, 1) := by decide +kernel
theorem dd_Mo_verified_80 : decode bb_Mo_verified 80 = .ok (.aload_n 0, 1) := by decide +kernel
theorem dd_Mo_verified_81 : decode bb_Mo_verified 81 = .ok (.iconst 2, 1) := by decide +kernel
theorem dd_Mo_verified_82 : decode bb_Mo_verified 82 = .ok (.iconst 2, 1) := by decide +kernel
theorem dd_Mo_verified_83 : decode bb_Mo_verified 83 = .ok (.invokevirtual 297, 3) := by decide +kernel
theorem dd_Mo_verified_86 : decode bb_Mo_verified 86 = .ok (.pop, 1) := by decide +kernel
theorem dd_Mo_verified_87 : decode bb_Mo_verified 87 = .ok (.aload_n 0, 1) := by decide +kernel
theorem dd_Mo_verified_88 : decode bb_Mo_verified 88 = .ok (.bipush (7), 2) := by decide +kernel
theorem dd_Mo_verified_90 : decode bb_Mo_verified 90 = .ok (.bipush (7), 2) := by decide +kernel
theorem dd_Mo_verified_92 : decode bb_Mo_verified 92 = .ok (.invokevirtual 297, 3) := by decide +kernel
theorem dd_Mo_verified_95 : decode bb_Mo_verified 95 = .ok (.pop, 1) := by decide +kernel
theorem dd_Mo_verified_96 : decode bb_Mo_verified 96 = .ok (.aload_n 0, 1) := by decide +kernel
theorem dd_Mo_verified_97 : decode bb_Mo_verified 97 = .ok (.sipush (128), 3) := by decide +kernel
theorem dd_Mo_verified_100 : decode bb_Mo_verified 100 = .ok (.sipush (128), 3) := by decide +kernel
theorem dd_Mo_verified_103 : decode bb_Mo_verified 103 = .ok (.invokevirtual 297, 3) := by decide +kernel
theorem dd_Mo_verified_106 : decode bb_Mo_verified 106 = .ok (.pop, 1) := by decide +kernel
theorem dd_Mo_verified_107 : decode bb_Mo_verified 107 = .ok (.aload_n 0, 1) := by decide +kernel
theorem dd_Mo_verified_108 : decode bb_Mo_verified 108 = .ok (.getfield 291, 3) := by decide +kernel
theorem dd_Mo_verified_111 : decode bb_Mo_verified 111 = .ok (.istore 7, 2) := by decide +kernel
theorem dd_Mo_verified_113 : decode bb_Mo_verified 113 = .ok (.aload_n 0, 1) := by decide +kernel
theorem dd_Mo_verified_114 : decode bb_Mo_verified 114 = .ok (.invokevirtual 300, 3) := by decide +kernel
theorem dd_Mo_verified_117 : decode bb_Mo_verified 117 = .ok (.istore 8, 2) := by decide +kernel
theorem dd_Mo_verified_119 : decode bb_Mo_verified 119 = .ok (.iload_n 2, 1) := by decide +kernel
theorem dd_Mo_verified_120 : decode bb_Mo_verified 120 = .ok (.iload 7, 2) := by decide +kernel
theorem dd_Mo_verified_122 : decode bb_Mo_verified 122 = .ok (.iconst 4, 1) := by decide +kernel
theorem dd_Mo_verified_123 : decode bb_Mo_verified 123 = .ok (.isub, 1) := by decide +kernel
theorem dd_Mo_verified_124 : decode bb_Mo_verified 124 = .ok (.if_icmp .eq (8), 3) := by decide +kernel
theorem dd_Mo_verified_127 : decode bb_Mo_verified 127 = .ok (.aload_n 0, 1) := by decide +kernel
theorem dd_Mo_verified_128 : decode bb_Mo_verified 128 = .ok (.iconst 3, 1) := by decide +kernel
theorem dd_Mo_verified_129 : decode bb_Mo_verified 129 = .ok (.invokevirtual 294, 3) := by decide +kernel
theorem dd_Mo_verified_132 : decode bb_Mo_verified 132 = .ok (.aload_n 0, 1) := by decide +kernel
theorem dd_Mo_verified_133 : decode bb_Mo_verified 133 = .ok (.getfield 291, 3) := by decide +kernel
theorem dd_Mo_verified_136 : decode bb_Mo_verified 136 = .ok (.aload_n 0, 1) := by decide +kernel
theorem dd_Mo_verified_137 : decode bb_Mo_verified 137 = .ok (.getfield 122, 3) := by decide +kernel
theorem dd_Mo_verified_140 : decode bb_Mo_verified 140 = .ok (.if_icmp .ge (11), 3) := by decide +kernel
theorem dd_Mo_verified_151 : decode bb_Mo_verified 151 = .ok (.iload_n 1, 1) := by decide +kernel
theorem dd_Mo_verified_152 : decode bb_Mo_verified 152 = .ok (.aload_n 0, 1) := by decide +kernel
theorem dd_Mo_verified_153 : decode bb_Mo_verified 153 = .ok (.getfield 122, 3) := by decide +kernel
theorem dd_Mo_verified_156 : decode bb_Mo_verified 156 = .ok (.iconst 2, 1) := by decide +kernel
theorem dd_Mo_verified_157 : decode bb_Mo_verified 157 = .ok (.isub, 1) := by decide +kernel
theorem dd_Mo_verified_158 : decode bb_Mo_verified 158 = .ok (.if_icmp .eq (8), 3) := by decide +kernel
theorem dd_Mo_verified_161 : decode bb_Mo_verified 161 = .ok (.aload_n 0, 1) := by decide +kernel
theorem dd_Mo_verified_162 : decode bb_Mo_verified 162 = .ok (.iconst 1, 1) := by decide +kernel
theorem dd_Mo_verified_163 : decode bb_Mo_verified 163 = .ok (.invokevirtual 294, 3) := by decide +kernel
theorem dd_Mo_verified_166 : decode bb_Mo_verified 166 = .ok (.aload_n 0, 1) := by decide +kernel
theorem dd_Mo_verified_167 : decode bb_Mo_verified 167 = .ok (.getfield 288, 3) := by decide +kernel
theorem dd_Mo_verified_170 : decode bb_Mo_verified 170 = .ok (.ifCond .lt (10), 3) := by decide +kernel
theorem dd_Mo_verified_173 : decode bb_Mo_verified 173 = .ok (.iconst (-1), 1) := by decide +kernel
theorem dd_Mo_verified_174 : decode bb_Mo_verified 174 = .ok (.aload_n 0, 1) := by decide +kernel
theorem dd_Mo_verified_175 : decode bb_Mo_verified 175 = .ok (.getfield 288, 3) := by decide +kernel
theorem dd_Mo_verified_178 : decode bb_Mo_verified 178 = .ok (.isub, 1) := by decide +kernel
theorem dd_Mo_verified_179 : decode bb_Mo_verified 179 = .ok (.ireturn, 1) := by decide +kernel
theorem dd_Mo_in_0 : decode bb_Mo_in 0 = .ok (.aload_n 0, 1) := by decide +kernel
theorem dd_Mo_in_1 : decode bb_Mo_in 1 = .ok (.getfield 291, 3) := by decide +kernel
theorem dd_Mo_in_4 : decode bb_Mo_in 4 = .ok (.aload_n 0, 1) := by decide +kernel
theorem dd_Mo_in_5 : decode bb_Mo_in 5 = .ok (.getfield 122, 3) := by decide +kernel
theorem dd_Mo_in_8 : decode bb_Mo_in 8 = .ok (.if_icmp .ge (15), 3) := by decide +kernel
theorem dd_Mo_in_23 : decode bb_Mo_in 23 = .ok (.iconst (-1), 1) := by decide +kernel
theorem dd_Mo_in_24 : decode bb_Mo_in 24 = .ok (.istore_n 3, 1) := by decide +kernel
theorem dd_Mo_in_25 : decode bb_Mo_in 25 = .ok (.iload_n 3, 1) := by decide +kernel
theorem dd_Mo_in_26 : decode bb_Mo_in 26 = .ok (.iload_n 1, 1) := by decide +kernel
theorem dd_Mo_in_27 : decode bb_Mo_in 27 = .ok (.iload_n 2, 1) := by decide +kernel
theorem dd_Mo_in_28 : decode bb_Mo_in 28 = .ok (.invokestatic 118, 3) := by decide +kernel
theorem dd_Mo_in_31 : decode bb_Mo_in 31 = .ok (.ifCond .eq (11), 3) := by decide +kernel
theorem dd_Mo_in_34 : decode bb_Mo_in 34 = .ok (.aload_n 0, 1) := by decide +kernel
theorem dd_Mo_in_35 : decode bb_Mo_in 35 = .ok (.aload_n 0, 1) := by decide +kernel
theorem dd_Mo_in_36 : decode bb_Mo_in 36 = .ok (.getfield 291, 3) := by decide +kernel
theorem dd_Mo_in_39 : decode bb_Mo_in 39 = .ok (.invokevirtual 294, 3) := by decide +kernel
theorem dd_Mo_in_42 : decode bb_Mo_in 42 = .ok (.aload_n 0, 1) := by decide +kernel
theorem dd_Mo_in_43 : decode bb_Mo_in 43 = .ok (.dup, 1) := by decide +kernel
theorem dd_Mo_in_44 : decode bb_Mo_in 44 = .ok (.getfield 291, 3) := by decide +kernel
theorem dd_Mo_in_47 : decode bb_Mo_in 47 = .ok (.iconst 1, 1) := by decide +kernel
theorem dd_Mo_in_48 : decode bb_Mo_in 48 = .ok (.iadd, 1) := by decide +kernel
theorem dd_Mo_in_49 : decode bb_Mo_in 49 = .ok (.putfield 291, 3) := by decide +kernel
theorem dd_Mo_in_52 : decode bb_Mo_in 52 = .ok (.iload_n 3, 1) := by decide +kernel
theorem dd_Mo_in_53 : decode bb_Mo_in 53 = .ok (.ireturn, 1) := by decide +kernel
theorem dd_Mo_error_0 : decode bb_Mo_error 0 = .ok (.aload_n 0, 1) := by decide +kernel
theorem dd_Mo_error_1 : decode bb_Mo_error 1 = .ok (.getfield 288, 3) := by decide +kernel
theorem dd_Mo_error_4 : decode bb_Mo_error 4 = .ok (.ifCond .ge (23), 3) := by decide +kernel
theorem dd_Mo_error_7 : decode bb_Mo_error 7 = .ok (.aload_n 0, 1) := by decide +kernel
theorem dd_Mo_error_8 : decode bb_Mo_error 8 = .ok (.iload_n 1, 1) := by decide +kernel
theorem dd_Mo_error_9 : decode bb_Mo_error 9 = .ok (.aload_n 0, 1) := by decide +kernel
theorem dd_Mo_error_10 : decode bb_Mo_error 10 = .ok (.getfield 122, 3) := by decide +kernel
theorem dd_Mo_error_13 : decode bb_Mo_error 13 = .ok (.if_icmp .ge (7), 3) := by decide +kernel
theorem dd_Mo_error_20 : decode bb_Mo_error 20 = .ok (.aload_n 0, 1) := by decide +kernel
theorem dd_Mo_error_21 : decode bb_Mo_error 21 = .ok (.getfield 122, 3) := by decide +kernel
theorem dd_Mo_error_24 : decode bb_Mo_error 24 = .ok (.putfield 288, 3) := by decide +kernel
theorem dd_Mo_error_27 : decode bb_Mo_error 27 = .ok (.return_, 1) := by decide +kernel
theorem dd_Mo_inNumber_0 : decode bb_Mo_inNumber 0 = .ok (.aload_n 0, 1) := by decide +kernel
theorem dd_Mo_inNumber_1 : decode bb_Mo_inNumber 1 = .ok (.iconst 2, 1) := by decide +kernel
theorem dd_Mo_inNumber_2 : decode bb_Mo_inNumber 2 = .ok (.iconst 2, 1) := by decide +kernel
theorem dd_Mo_inNumber_3 : decode bb_Mo_inNumber 3 = .ok (.invokevirtual 297, 3) := by decide +kernel
theorem dd_Mo_inNumber_6 : decode bb_Mo_inNumber 6 = .ok (.pop, 1) := by decide +kernel
theorem dd_Mo_inNumber_7 : decode bb_Mo_inNumber 7 = .ok (.aload_n 0, 1) := by decide +kernel
theorem dd_Mo_inNumber_8 : decode bb_Mo_inNumber 8 = .ok (.iconst 1, 1) := by decide +kernel
theorem dd_Mo_inNumber_9 : decode bb_Mo_inNumber 9 = .ok (.iconst 4, 1) := by decide +kernel
theorem dd_Mo_inNumber_10 : decode bb_Mo_inNumber 10 = .ok (.invokevirtual 297, 3) := by decide +kernel
theorem dd_Mo_inNumber_13 : decode bb_Mo_inNumber 13 = .ok (.istore_n 1, 1) := by decide +kernel
theorem dd_Mo_inNumber_14 : decode bb_Mo_inNumber 14 = .ok (.iconst 0, 1) := by decide +kernel
theorem dd_Mo_inNumber_15 : decode bb_Mo_inNumber 15 = .ok (.istore_n 2, 1) := by decide +kernel
theorem dd_Mo_inNumber_16 : decode bb_Mo_inNumber 16 = .ok (.aload_n 0, 1) := by decide +kernel
theorem dd_Mo_inNumber_17 : decode bb_Mo_inNumber 17 = .ok (.getfield 291, 3) := by decide +kernel
theorem dd_Mo_inNumber_20 : decode bb_Mo_inNumber 20 = .ok (.istore_n 3, 1) := by decide +kernel
theorem dd_Mo_inNumber_21 : decode bb_Mo_inNumber 21 = .ok (.iconst 0, 1) := by decide +kernel
theorem dd_Mo_inNumber_22 : decode bb_Mo_inNumber 22 = .ok (.istore 4, 2) := by decide +kernel
theorem dd_Mo_inNumber_24 : decode bb_Mo_inNumber 24 = .ok (.iload 4, 2) := by decide +kernel
theorem dd_Mo_inNumber_26 : decode bb_Mo_inNumber 26 = .ok (.iload_n 1, 1) := by decide +kernel
theorem dd_Mo_inNumber_27 : decode bb_Mo_inNumber 27 = .ok (.if_icmp .ge (41), 3) := by decide +kernel
theorem dd_Mo_inNumber_68 : decode bb_Mo_inNumber 68 = .ok (.aload_n 0, 1) := by decide +kernel
theorem dd_Mo_inNumber_69 : decode bb_Mo_inNumber 69 = .ok (.getfield 288, 3) := by decide +kernel
theorem dd_Mo_inNumber_72 : decode bb_Mo_inNumber 72 = .ok (.ifCond .ge (36), 3) := by decide +kernel
theorem dd_Mo_inNumber_108 : decode bb_Mo_inNumber 108 = .ok (.iload_n 2, 1) := by decide +kernel
theorem dd_Mo_inNumber_109 : decode bb_Mo_inNumber 109 = .ok (.ireturn, 1) := by decide +kernel
theorem dd_Mo_inId_0 : decode bb_Mo_inId 0 = .ok (.aload_n 0, 1) := by decide +kernel
theorem dd_Mo_inId_1 : decode bb_Mo_inId 1 = .ok (.sipush (134), 3) := by decide +kernel
theorem dd_Mo_inId_4 : decode bb_Mo_inId 4 = .ok (.sipush (134), 3) := by decide +kernel
theorem dd_Mo_inId_7 : decode bb_Mo_inId 7 = .ok (.invokevirtual 297, 3) := by decide +kernel
theorem dd_Mo_inId_10 : decode bb_Mo_inId 10 = .ok (.pop, 1) := by decide +kernel
theorem dd_Mo_inId_11 : decode bb_Mo_inId 11 = .ok (.aload_n 0, 1) := by decide +kernel
theorem dd_Mo_inId_12 : decode bb_Mo_inId 12 = .ok (.iconst 0, 1) := by decide +kernel
theorem dd_Mo_inId_13 : decode bb_Mo_inId 13 = .ok (.sipush (255), 3) := by decide +kernel
theorem dd_Mo_inId_16 : decode bb_Mo_inId 16 = .ok (.invokevirtual 297, 3) := by decide +kernel
theorem dd_Mo_inId_19 : decode bb_Mo_inId 19 = .ok (.istore_n 1, 1) := by decide +kernel
theorem dd_Mo_inId_20 : decode bb_Mo_inId 20 = .ok (.aload_n 0, 1) := by decide +kernel
theorem dd_Mo_inId_21 : decode bb_Mo_inId 21 = .ok (.getfield 288, 3) := by decide +kernel
theorem dd_Mo_inId_24 : decode bb_Mo_inId 24 = .ok (.ifCond .ge (26), 3) := by decide +kernel
theorem dd_Mo_inId_50 : decode bb_Mo_inId 50 = .ok (.aload_n 0, 1) := by decide +kernel
theorem dd_Mo_inId_51 : decode bb_Mo_inId 51 = .ok (.getfield 288, 3) := by decide +kernel
theorem dd_Mo_inId_54 : decode bb_Mo_inId 54 = .ok (.ifCond .ge (15), 3) := by decide +kernel
theorem dd_Mo_inId_69 : decode bb_Mo_inId 69 = .ok (.iconst (-1), 1) := by decide +kernel
theorem dd_Mo_inId_70 : decode bb_Mo_inId 70 = .ok (.istore_n 2, 1) := by decide +kernel
theorem dd_Mo_inId_71 : decode bb_Mo_inId 71 = .ok (.iload_n 2, 1) := by decide +kernel
theorem dd_Mo_inId_72 : decode bb_Mo_inId 72 = .ok (.ifCond .lt (13), 3) := by decide +kernel
theorem dd_Mo_inId_85 : decode bb_Mo_inId 85 = .ok (.aload_n 0, 1) := by decide +kernel
theorem dd_Mo_inId_86 : decode bb_Mo_inId 86 = .ok (.dup, 1) := by decide +kernel
theorem dd_Mo_inId_87 : decode bb_Mo_inId 87 = .ok (.getfield 291, 3) := by decide +kernel
theorem dd_Mo_inId_90 : decode bb_Mo_inId 90 = .ok (.iload_n 1, 1) := by decide +kernel
theorem dd_Mo_inId_91 : decode bb_Mo_inId 91 = .ok (.iadd, 1) := by decide +kernel
theorem dd_Mo_inId_92 : decode bb_Mo_inId 92 = .ok (.putfield 291, 3) := by decide +kernel
theorem dd_Mo_inId_95 : decode bb_Mo_inId 95 = .ok (.return_, 1) := by decide +kernel
theorem dd_Mo_prepare_0 : decode bb_Mo_prepare 0 = .ok (.iconst 0, 1) := by decide +kernel
theorem dd_Mo_prepare_1 : decode bb_Mo_prepare 1 = .ok (.istore_n 1, 1) := by decide +kernel
theorem dd_Mo_prepare_2 : decode bb_Mo_prepare 2 = .ok (.iconst 0, 1) := by decide +kernel
theorem dd_Mo_prepare_3 : decode bb_Mo_prepare 3 = .ok (.istore_n 2, 1) := by decide +kernel
theorem dd_Mo_prepare_4 : decode bb_Mo_prepare 4 = .ok (.iload_n 2, 1) := by decide +kernel
theorem dd_Mo_prepare_5 : decode bb_Mo_prepare 5 = .ok (.aload_n 0, 1) := by decide +kernel
theorem dd_Mo_prepare_6 : decode bb_Mo_prepare 6 = .ok (.getfield 112, 3) := by decide +kernel
theorem dd_Mo_prepare_9 : decode bb_Mo_prepare 9 = .ok (.if_icmp .ge (25), 3) := by decide +kernel
theorem dd_Mo_prepare_12 : decode bb_Mo_prepare 12 = .ok (.aload_n 0, 1) := by decide +kernel
theorem dd_Mo_prepare_13 : decode bb_Mo_prepare 13 = .ok (.iload_n 2, 1) := by decide +kernel
theorem dd_Mo_prepare_14 : decode bb_Mo_prepare 14 = .ok (.invokevirtual 198, 3) := by decide +kernel
theorem dd_Mo_prepare_17 : decode bb_Mo_prepare 17 = .ok (.ifCond .eq (9), 3) := by decide +kernel
theorem dd_Mo_prepare_20 : decode bb_Mo_prepare 20 = .ok (.iload_n 1, 1) := by decide +kernel
theorem dd_Mo_prepare_21 : decode bb_Mo_prepare 21 = .ok (.iconst 1, 1) := by decide +kernel
theorem dd_Mo_prepare_22 : decode bb_Mo_prepare 22 = .ok (.iadd, 1) := by decide +kernel
theorem dd_Mo_prepare_23 : decode bb_Mo_prepare 23 = .ok (.goto (4), 3) := by decide +kernel
theorem dd_Mo_prepare_26 : decode bb_Mo_prepare 26 = .ok (.iload_n 1, 1) := by decide +kernel
theorem dd_Mo_prepare_27 : decode bb_Mo_prepare 27 = .ok (.istore_n 1, 1) := by decide +kernel
theorem dd_Mo_prepare_28 : decode bb_Mo_prepare 28 = .ok (.iinc 2 (1), 3) := by decide +kernel
theorem dd_Mo_prepare_31 : decode bb_Mo_prepare 31 = .ok (.goto (-27), 3) := by decide +kernel
theorem dd_Mo_prepare_34 : decode bb_Mo_prepare 34 = .ok (.aload_n 0, 1) := by decide +kernel
theorem dd_Mo_prepare_35 : decode bb_Mo_prepare 35 = .ok (.aload_n 0, 1) := by decide +kernel
theorem dd_Mo_prepare_36 : decode bb_Mo_prepare 36 = .ok (.getfield 115, 3) := by decide +kernel
theorem dd_Mo_prepare_39 : decode bb_Mo_prepare 39 = .ok (.invokevirtual 198, 3) := by decide +kernel
theorem dd_Mo_prepare_42 : decode bb_Mo_prepare 42 = .ok (.ifCond .ne (8), 3) := by decide +kernel
theorem dd_Mo_prepare_45 : decode bb_Mo_prepare 45 = .ok (.iload_n 1, 1) := by decide +kernel
theorem dd_Mo_prepare_46 : decode bb_Mo_prepare 46 = .ok (.iconst 4, 1) := by decide +kernel
theorem dd_Mo_prepare_47 : decode bb_Mo_prepare 47 = .ok (.if_icmp .lt (7), 3) := by decide +kernel
theorem dd_Mo_prepare_50 : decode bb_Mo_prepare 50 = .ok (.sipush (-1003), 3) := by decide +kernel
theorem dd_Mo_prepare_53 : decode bb_Mo_prepare 53 = .ok (.ireturn, 1) := by decide +kernel
theorem dd_Mo_prepare_54 : decode bb_Mo_prepare 54 = .ok (.aload_n 0, 1) := by decide +kernel
theorem dd_Mo_prepare_55 : decode bb_Mo_prepare 55 = .ok (.getfield 22, 3) := by decide +kernel
theorem dd_Mo_prepare_58 : decode bb_Mo_prepare 58 = .ok (.aload_n 0, 1) := by decide +kernel
theorem dd_Mo_prepare_59 : decode bb_Mo_prepare 59 = .ok (.getfield 112, 3) := by decide +kernel
theorem dd_Mo_prepare_62 : decode bb_Mo_prepare 62 = .ok (.aload_n 0, 1) := by decide +kernel
theorem dd_Mo_prepare_63 : decode bb_Mo_prepare 63 = .ok (.getfield 180, 3) := by decide +kernel
theorem dd_Mo_prepare_66 : decode bb_Mo_prepare 66 = .ok (.iastore, 1) := by decide +kernel
theorem dd_Mo_prepare_67 : decode bb_Mo_prepare 67 = .ok (.aload_n 0, 1) := by decide +kernel
theorem dd_Mo_prepare_68 : decode bb_Mo_prepare 68 = .ok (.aload_n 0, 1) := by decide +kernel
theorem dd_Mo_prepare_69 : decode bb_Mo_prepare 69 = .ok (.getfield 112, 3) := by decide +kernel
theorem dd_Mo_prepare_72 : decode bb_Mo_prepare 72 = .ok (.putfield 115, 3) := by decide +kernel
theorem dd_Mo_prepare_75 : decode bb_Mo_prepare 75 = .ok (.aload_n 0, 1) := by decide +kernel
theorem dd_Mo_prepare_76 : decode bb_Mo_prepare 76 = .ok (.dup, 1) := by decide +kernel
theorem dd_Mo_prepare_77 : decode bb_Mo_prepare 77 = .ok (.getfield 112, 3) := by decide +kernel
theorem dd_Mo_prepare_80 : decode bb_Mo_prepare 80 = .ok (.iconst 1, 1) := by decide +kernel
theorem dd_Mo_prepare_81 : decode bb_Mo_prepare 81 = .ok (.iadd, 1) := by decide +kernel
theorem dd_Mo_prepare_82 : decode bb_Mo_prepare 82 = .ok (.putfield 112, 3) := by decide +kernel
theorem dd_Mo_prepare_85 : decode bb_Mo_prepare 85 = .ok (.aload_n 0, 1) := by decide +kernel
theorem dd_Mo_prepare_86 : decode bb_Mo_prepare 86 = .ok (.getfield 115, 3) := by decide +kernel
theorem dd_Mo_prepare_89 : decode bb_Mo_prepare 89 = .ok (.ireturn, 1) := by decide +kernel
theorem dd_Mo_activate_0 : decode bb_Mo_activate 0 = .ok (.aload_n 0, 1) := by decide +kernel
theorem dd_Mo_activate_1 : decode bb_Mo_activate 1 = .ok (.aload_n 0, 1) := by decide +kernel
theorem dd_Mo_activate_2 : decode bb_Mo_activate 2 = .ok (.getfield 115, 3) := by decide +kernel
theorem dd_Mo_activate_5 : decode bb_Mo_activate 5 = .ok (.invokevirtual 198, 3) := by decide +kernel
theorem dd_Mo_activate_8 : decode bb_Mo_activate 8 = .ok (.ifCond .ne (5), 3) := by decide +kernel
theorem dd_Mo_activate_11 : decode bb_Mo_activate 11 = .ok (.iconst 0, 1) := by decide +kernel
theorem dd_Mo_activate_12 : decode bb_Mo_activate 12 = .ok (.ireturn, 1) := by decide +kernel
theorem dd_Mo_activate_13 : decode bb_Mo_activate 13 = .ok (.aload_n 0, 1) := by decide +kernel
theorem dd_Mo_activate_14 : decode bb_Mo_activate 14 = .ok (.aload_n 0, 1) := by decide +kernel
theorem dd_Mo_activate_15 : decode bb_Mo_activate 15 = .ok (.getfield 115, 3) := by decide +kernel
theorem dd_Mo_activate_18 : decode bb_Mo_activate 18 = .ok (.putfield 183, 3) := by decide +kernel
theorem dd_Mo_activate_21 : decode bb_Mo_activate 21 = .ok (.aload_n 0, 1) := by decide +kernel
theorem dd_Mo_activate_22 : decode bb_Mo_activate 22 = .ok (.iconst (-1), 1) := by decide +kernel
theorem dd_Mo_activate_23 : decode bb_Mo_activate 23 = .ok (.putfield 115, 3) := by decide +kernel
theorem dd_Mo_activate_26 : decode bb_Mo_activate 26 = .ok (.iconst 1, 1) := by decide +kernel
theorem dd_Mo_activate_27 : decode bb_Mo_activate 27 = .ok (.ireturn, 1) := by decide +kernel
theorem dd_Mo_tick_0 : decode bb_Mo_tick 0 = .ok (.iload_n 1, 1) := by decide +kernel
theorem dd_Mo_tick_1 : decode bb_Mo_tick 1 = .ok (.iconst 1, 1) := by decide +kernel
theorem dd_Mo_tick_2 : decode bb_Mo_tick 2 = .ok (.bipush (64), 2) := by decide +kernel
theorem dd_Mo_tick_4 : decode bb_Mo_tick 4 = .ok (.invokestatic 118, 3) := by decide +kernel
theorem dd_Mo_tick_7 : decode bb_Mo_tick 7 = .ok (.ifCond .eq (7), 3) := by decide +kernel
theorem dd_Mo_tick_10 : decode bb_Mo_tick 10 = .ok (.sipush (-1002), 3) := by decide +kernel
theorem dd_Mo_tick_13 : decode bb_Mo_tick 13 = .ok (.ireturn, 1) := by decide +kernel
theorem dd_Mo_tick_14 : decode bb_Mo_tick 14 = .ok (.aload_n 0, 1) := by decide +kernel
theorem dd_Mo_tick_15 : decode bb_Mo_tick 15 = .ok (.dup, 1) := by decide +kernel
theorem dd_Mo_tick_16 : decode bb_Mo_tick 16 = .ok (.getfield 180, 3) := by decide +kernel
theorem dd_Mo_tick_19 : decode bb_Mo_tick 19 = .ok (.iload_n 1, 1) := by decide +kernel
theorem dd_Mo_tick_20 : decode bb_Mo_tick 20 = .ok (.iadd, 1) := by decide +kernel
theorem dd_Mo_tick_21 : decode bb_Mo_tick 21 = .ok (.putfield 180, 3) := by decide +kernel
theorem dd_Mo_tick_24 : decode bb_Mo_tick 24 = .ok (.aload_n 0, 1) := by decide +kernel
theorem dd_Mo_tick_25 : decode bb_Mo_tick 25 = .ok (.getfield 180, 3) := by decide +kernel
theorem dd_Mo_tick_28 : decode bb_Mo_tick 28 = .ok (.ireturn, 1) := by decide +kernel

