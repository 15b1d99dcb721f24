theorem dd_Rs_init_0 : decode bb_Rs_init 0 = .ok (.aload_n 0, 1) := by decide +kernel
theorem dd_Rs_init_1 : decode bb_Rs_init 1 = .ok (.invokespecial 3, 3) := by decide +kernel
theorem dd_Rs_init_4 : decode bb_Rs_init 4 = .ok (.aload_n 0, 1) := by decide +kernel
theorem dd_Rs_init_5 : decode bb_Rs_init 5 = .ok (.new 9, 3) := by decide +kernel
theorem dd_Rs_init_8 : decode bb_Rs_init 8 = .ok (.dup, 1) := by decide +kernel
theorem dd_Rs_init_9 : decode bb_Rs_init 9 = .ok (.invokespecial 11, 3) := by decide +kernel
theorem dd_Rs_init_12 : decode bb_Rs_init 12 = .ok (.putfield 12, 3) := by decide +kernel
theorem dd_Rs_init_15 : decode bb_Rs_init 15 = .ok (.return_, 1) := by decide +kernel
theorem dd_Rs_fill_0 : decode bb_Rs_fill 0 = .ok (.aload_n 0, 1) := by decide +kernel
theorem dd_Rs_fill_1 : decode bb_Rs_fill 1 = .ok (.getfield 12, 3) := by decide +kernel
theorem dd_Rs_fill_4 : decode bb_Rs_fill 4 = .ok (.invokevirtual 18, 3) := by decide +kernel
theorem dd_Rs_fill_7 : decode bb_Rs_fill 7 = .ok (.iconst 0, 1) := by decide +kernel
theorem dd_Rs_fill_8 : decode bb_Rs_fill 8 = .ok (.istore 4, 2) := by decide +kernel
theorem dd_Rs_fill_10 : decode bb_Rs_fill 10 = .ok (.iconst 0, 1) := by decide +kernel
theorem dd_Rs_fill_11 : decode bb_Rs_fill 11 = .ok (.istore 5, 2) := by decide +kernel
theorem dd_Rs_fill_13 : decode bb_Rs_fill 13 = .ok (.iload 5, 2) := by decide +kernel
theorem dd_Rs_fill_15 : decode bb_Rs_fill 15 = .ok (.aload_n 1, 1) := by decide +kernel
theorem dd_Rs_fill_16 : decode bb_Rs_fill 16 = .ok (.getfield 21, 3) := by decide +kernel
theorem dd_Rs_fill_19 : decode bb_Rs_fill 19 = .ok (.invokevirtual 26, 3) := by decide +kernel
theorem dd_Rs_fill_22 : decode bb_Rs_fill 22 = .ok (.if_icmp .ge (67), 3) := by decide +kernel
theorem dd_Rs_fill_25 : decode bb_Rs_fill 25 = .ok (.aload_n 1, 1) := by decide +kernel
theorem dd_Rs_fill_26 : decode bb_Rs_fill 26 = .ok (.getfield 21, 3) := by decide +kernel
theorem dd_Rs_fill_29 : decode bb_Rs_fill 29 = .ok (.iload 5, 2) := by decide +kernel
theorem dd_Rs_fill_31 : decode bb_Rs_fill 31 = .ok (.invokevirtual 30, 3) := by decide +kernel
theorem dd_Rs_fill_34 : decode bb_Rs_fill 34 = .ok (.checkcast 34, 3) := by decide +kernel
theorem dd_Rs_fill_37 : decode bb_Rs_fill 37 = .ok (.astore 6, 2) := by decide +kernel
theorem dd_Rs_fill_39 : decode bb_Rs_fill 39 = .ok (.aload 6, 2) := by decide +kernel
theorem dd_Rs_fill_41 : decode bb_Rs_fill 41 = .ok (.getfield 36, 3) := by decide +kernel
theorem dd_Rs_fill_44 : decode bb_Rs_fill 44 = .ok (.iload_n 2, 1) := by decide +kernel
theorem dd_Rs_fill_45 : decode bb_Rs_fill 45 = .ok (.invokevirtual 40, 3) := by decide +kernel
theorem dd_Rs_fill_48 : decode bb_Rs_fill 48 = .ok (.ifCond .eq (35), 3) := by decide +kernel
theorem dd_Rs_fill_51 : decode bb_Rs_fill 51 = .ok (.aload 6, 2) := by decide +kernel
theorem dd_Rs_fill_53 : decode bb_Rs_fill 53 = .ok (.getfield 46, 3) := by decide +kernel
theorem dd_Rs_fill_56 : decode bb_Rs_fill 56 = .ok (.iload_n 3, 1) := by decide +kernel
theorem dd_Rs_fill_57 : decode bb_Rs_fill 57 = .ok (.if_icmp .le (26), 3) := by decide +kernel
theorem dd_Rs_fill_60 : decode bb_Rs_fill 60 = .ok (.aload_n 0, 1) := by decide +kernel
theorem dd_Rs_fill_61 : decode bb_Rs_fill 61 = .ok (.getfield 12, 3) := by decide +kernel
theorem dd_Rs_fill_64 : decode bb_Rs_fill 64 = .ok (.aload 6, 2) := by decide +kernel
theorem dd_Rs_fill_66 : decode bb_Rs_fill 66 = .ok (.invokevirtual 50, 3) := by decide +kernel
theorem dd_Rs_fill_69 : decode bb_Rs_fill 69 = .ok (.pop, 1) := by decide +kernel
theorem dd_Rs_fill_70 : decode bb_Rs_fill 70 = .ok (.iload 4, 2) := by decide +kernel
theorem dd_Rs_fill_72 : decode bb_Rs_fill 72 = .ok (.aload 6, 2) := by decide +kernel
theorem dd_Rs_fill_74 : decode bb_Rs_fill 74 = .ok (.getfield 36, 3) := by decide +kernel
theorem dd_Rs_fill_77 : decode bb_Rs_fill 77 = .ok (.getfield 54, 3) := by decide +kernel
theorem dd_Rs_fill_80 : decode bb_Rs_fill 80 = .ok (.ior, 1) := by decide +kernel
theorem dd_Rs_fill_81 : decode bb_Rs_fill 81 = .ok (.istore 4, 2) := by decide +kernel
theorem dd_Rs_fill_83 : decode bb_Rs_fill 83 = .ok (.iinc 5 (1), 3) := by decide +kernel
theorem dd_Rs_fill_86 : decode bb_Rs_fill 86 = .ok (.goto (-73), 3) := by decide +kernel
theorem dd_Rs_fill_89 : decode bb_Rs_fill 89 = .ok (.aload_n 0, 1) := by decide +kernel
theorem dd_Rs_fill_90 : decode bb_Rs_fill 90 = .ok (.getfield 12, 3) := by decide +kernel
theorem dd_Rs_fill_93 : decode bb_Rs_fill 93 = .ok (.invokevirtual 57, 3) := by decide +kernel
theorem dd_Rs_fill_96 : decode bb_Rs_fill 96 = .ok (.istore 5, 2) := by decide +kernel
theorem dd_Rs_fill_98 : decode bb_Rs_fill 98 = .ok (.aload_n 0, 1) := by decide +kernel
theorem dd_Rs_fill_99 : decode bb_Rs_fill 99 = .ok (.iload 5, 2) := by decide +kernel
theorem dd_Rs_fill_101 : decode bb_Rs_fill 101 = .ok (.ifCond .eq (7), 3) := by decide +kernel
theorem dd_Rs_fill_104 : decode bb_Rs_fill 104 = .ok (.iconst 0, 1) := by decide +kernel
theorem dd_Rs_fill_105 : decode bb_Rs_fill 105 = .ok (.goto (7), 3) := by decide +kernel
theorem dd_Rs_fill_108 : decode bb_Rs_fill 108 = .ok (.aload_n 1, 1) := by decide +kernel
theorem dd_Rs_fill_109 : decode bb_Rs_fill 109 = .ok (.getfield 61, 3) := by decide +kernel
theorem dd_Rs_fill_112 : decode bb_Rs_fill 112 = .ok (.putfield 64, 3) := by decide +kernel
theorem dd_Rs_fill_115 : decode bb_Rs_fill 115 = .ok (.aload_n 0, 1) := by decide +kernel
theorem dd_Rs_fill_116 : decode bb_Rs_fill 116 = .ok (.iload 5, 2) := by decide +kernel
theorem dd_Rs_fill_118 : decode bb_Rs_fill 118 = .ok (.ifCond .eq (7), 3) := by decide +kernel
theorem dd_Rs_fill_121 : decode bb_Rs_fill 121 = .ok (.iconst 0, 1) := by decide +kernel
theorem dd_Rs_fill_122 : decode bb_Rs_fill 122 = .ok (.goto (7), 3) := by decide +kernel
theorem dd_Rs_fill_125 : decode bb_Rs_fill 125 = .ok (.aload_n 1, 1) := by decide +kernel
theorem dd_Rs_fill_126 : decode bb_Rs_fill 126 = .ok (.getfield 65, 3) := by decide +kernel
theorem dd_Rs_fill_129 : decode bb_Rs_fill 129 = .ok (.putfield 68, 3) := by decide +kernel
theorem dd_Rs_fill_132 : decode bb_Rs_fill 132 = .ok (.aload_n 0, 1) := by decide +kernel
theorem dd_Rs_fill_133 : decode bb_Rs_fill 133 = .ok (.iload 4, 2) := by decide +kernel
theorem dd_Rs_fill_135 : decode bb_Rs_fill 135 = .ok (.aload_n 1, 1) := by decide +kernel
theorem dd_Rs_fill_136 : decode bb_Rs_fill 136 = .ok (.getfield 69, 3) := by decide +kernel
theorem dd_Rs_fill_139 : decode bb_Rs_fill 139 = .ok (.iand, 1) := by decide +kernel
theorem dd_Rs_fill_140 : decode bb_Rs_fill 140 = .ok (.putfield 72, 3) := by decide +kernel
theorem dd_Rs_fill_143 : decode bb_Rs_fill 143 = .ok (.return_, 1) := by decide +kernel
theorem dd_Rs_answer_0 : decode bb_Rs_answer 0 = .ok (.aload_n 0, 1) := by decide +kernel
theorem dd_Rs_answer_1 : decode bb_Rs_answer 1 = .ok (.getfield 12, 3) := by decide +kernel
theorem dd_Rs_answer_4 : decode bb_Rs_answer 4 = .ok (.invokevirtual 57, 3) := by decide +kernel
theorem dd_Rs_answer_7 : decode bb_Rs_answer 7 = .ok (.ifCond .eq (9), 3) := by decide +kernel
theorem dd_Rs_answer_10 : decode bb_Rs_answer 10 = .ok (.sipush (-1004), 3) := by decide +kernel
theorem dd_Rs_answer_13 : decode bb_Rs_answer 13 = .ok (.goto (10), 3) := by decide +kernel
theorem dd_Rs_answer_16 : decode bb_Rs_answer 16 = .ok (.aload_n 0, 1) := by decide +kernel
theorem dd_Rs_answer_17 : decode bb_Rs_answer 17 = .ok (.getfield 12, 3) := by decide +kernel
theorem dd_Rs_answer_20 : decode bb_Rs_answer 20 = .ok (.invokevirtual 26, 3) := by decide +kernel
theorem dd_Rs_answer_23 : decode bb_Rs_answer 23 = .ok (.ireturn, 1) := by decide +kernel
theorem dd_Rs_isLike_0 : decode bb_Rs_isLike 0 = .ok (.aload_n 0, 1) := by decide +kernel
theorem dd_Rs_isLike_1 : decode bb_Rs_isLike 1 = .ok (.getfield 12, 3) := by decide +kernel
theorem dd_Rs_isLike_4 : decode bb_Rs_isLike 4 = .ok (.invokevirtual 26, 3) := by decide +kernel
theorem dd_Rs_isLike_7 : decode bb_Rs_isLike 7 = .ok (.aload_n 1, 1) := by decide +kernel
theorem dd_Rs_isLike_8 : decode bb_Rs_isLike 8 = .ok (.getfield 12, 3) := by decide +kernel
theorem dd_Rs_isLike_11 : decode bb_Rs_isLike 11 = .ok (.invokevirtual 26, 3) := by decide +kernel
theorem dd_Rs_isLike_14 : decode bb_Rs_isLike 14 = .ok (.if_icmp .ne (36), 3) := by decide +kernel
theorem dd_Rs_isLike_17 : decode bb_Rs_isLike 17 = .ok (.aload_n 0, 1) := by decide +kernel
theorem dd_Rs_isLike_18 : decode bb_Rs_isLike 18 = .ok (.getfield 64, 3) := by decide +kernel
theorem dd_Rs_isLike_21 : decode bb_Rs_isLike 21 = .ok (.aload_n 1, 1) := by decide +kernel
theorem dd_Rs_isLike_22 : decode bb_Rs_isLike 22 = .ok (.getfield 64, 3) := by decide +kernel
theorem dd_Rs_isLike_25 : decode bb_Rs_isLike 25 = .ok (.if_icmp .ne (25), 3) := by decide +kernel
theorem dd_Rs_isLike_28 : decode bb_Rs_isLike 28 = .ok (.aload_n 0, 1) := by decide +kernel
theorem dd_Rs_isLike_29 : decode bb_Rs_isLike 29 = .ok (.getfield 68, 3) := by decide +kernel
theorem dd_Rs_isLike_32 : decode bb_Rs_isLike 32 = .ok (.aload_n 1, 1) := by decide +kernel
theorem dd_Rs_isLike_33 : decode bb_Rs_isLike 33 = .ok (.getfield 68, 3) := by decide +kernel
theorem dd_Rs_isLike_36 : decode bb_Rs_isLike 36 = .ok (.if_icmp .ne (14), 3) := by decide +kernel
theorem dd_Rs_isLike_39 : decode bb_Rs_isLike 39 = .ok (.aload_n 0, 1) := by decide +kernel
theorem dd_Rs_isLike_40 : decode bb_Rs_isLike 40 = .ok (.getfield 72, 3) := by decide +kernel
theorem dd_Rs_isLike_43 : decode bb_Rs_isLike 43 = .ok (.aload_n 1, 1) := by decide +kernel
theorem dd_Rs_isLike_44 : decode bb_Rs_isLike 44 = .ok (.getfield 72, 3) := by decide +kernel
theorem dd_Rs_isLike_47 : decode bb_Rs_isLike 47 = .ok (.if_icmp .eq (5), 3) := by decide +kernel
theorem dd_Rs_isLike_50 : decode bb_Rs_isLike 50 = .ok (.iconst 0, 1) := by decide +kernel
theorem dd_Rs_isLike_51 : decode bb_Rs_isLike 51 = .ok (.ireturn, 1) := by decide +kernel
theorem dd_Rs_isLike_52 : decode bb_Rs_isLike 52 = .ok (.iconst 0, 1) := by decide +kernel
theorem dd_Rs_isLike_53 : decode bb_Rs_isLike 53 = .ok (.istore_n 2, 1) := by decide +kernel
theorem dd_Rs_isLike_54 : decode bb_Rs_isLike 54 = .ok (.iload_n 2, 1) := by decide +kernel
theorem dd_Rs_isLike_55 : decode bb_Rs_isLike 55 = .ok (.aload_n 0, 1) := by decide +kernel
theorem dd_Rs_isLike_56 : decode bb_Rs_isLike 56 = .ok (.getfield 12, 3) := by decide +kernel
theorem dd_Rs_isLike_59 : decode bb_Rs_isLike 59 = .ok (.invokevirtual 26, 3) := by decide +kernel
theorem dd_Rs_isLike_62 : decode bb_Rs_isLike 62 = .ok (.if_icmp .ge (42), 3) := by decide +kernel
theorem dd_Rs_isLike_65 : decode bb_Rs_isLike 65 = .ok (.aload_n 0, 1) := by decide +kernel
theorem dd_Rs_isLike_66 : decode bb_Rs_isLike 66 = .ok (.getfield 12, 3) := by decide +kernel
theorem dd_Rs_isLike_69 : decode bb_Rs_isLike 69 = .ok (.iload_n 2, 1) := by decide +kernel
theorem dd_Rs_isLike_70 : decode bb_Rs_isLike 70 = .ok (.invokevirtual 30, 3) := by decide +kernel
theorem dd_Rs_isLike_73 : decode bb_Rs_isLike 73 = .ok (.checkcast 34, 3) := by decide +kernel
theorem dd_Rs_isLike_76 : decode bb_Rs_isLike 76 = .ok (.getfield 73, 3) := by decide +kernel
theorem dd_Rs_isLike_79 : decode bb_Rs_isLike 79 = .ok (.aload_n 1, 1) := by decide +kernel
theorem dd_Rs_isLike_80 : decode bb_Rs_isLike 80 = .ok (.getfield 12, 3) := by decide +kernel
theorem dd_Rs_isLike_83 : decode bb_Rs_isLike 83 = .ok (.iload_n 2, 1) := by decide +kernel
theorem dd_Rs_isLike_84 : decode bb_Rs_isLike 84 = .ok (.invokevirtual 30, 3) := by decide +kernel
theorem dd_Rs_isLike_87 : decode bb_Rs_isLike 87 = .ok (.checkcast 34, 3) := by decide +kernel
theorem dd_Rs_isLike_90 : decode bb_Rs_isLike 90 = .ok (.getfield 73, 3) := by decide +kernel
theorem dd_Rs_isLike_93 : decode bb_Rs_isLike 93 = .ok (.if_icmp .eq (5), 3) := by decide +kernel
theorem dd_Rs_isLike_96 : decode bb_Rs_isLike 96 = .ok (.iconst 0, 1) := by decide +kernel
theorem dd_Rs_isLike_97 : decode bb_Rs_isLike 97 = .ok (.ireturn, 1) := by decide +kernel
theorem dd_Rs_isLike_98 : decode bb_Rs_isLike 98 = .ok (.iinc 2 (1), 3) := by decide +kernel
theorem dd_Rs_isLike_101 : decode bb_Rs_isLike 101 = .ok (.goto (-47), 3) := by decide +kernel
theorem dd_Rs_isLike_104 : decode bb_Rs_isLike 104 = .ok (.iconst 1, 1) := by decide +kernel
theorem dd_Rs_isLike_105 : decode bb_Rs_isLike 105 = .ok (.ireturn, 1) := by decide +kernel
theorem dd_Rs_copy_0 : decode bb_Rs_copy 0 = .ok (.aload_n 0, 1) := by decide +kernel
theorem dd_Rs_copy_1 : decode bb_Rs_copy 1 = .ok (.getfield 12, 3) := by decide +kernel
theorem dd_Rs_copy_4 : decode bb_Rs_copy 4 = .ok (.invokevirtual 18, 3) := by decide +kernel
theorem dd_Rs_copy_7 : decode bb_Rs_copy 7 = .ok (.iconst 0, 1) := by decide +kernel
theorem dd_Rs_copy_8 : decode bb_Rs_copy 8 = .ok (.istore_n 2, 1) := by decide +kernel
theorem dd_Rs_copy_9 : decode bb_Rs_copy 9 = .ok (.iload_n 2, 1) := by decide +kernel
theorem dd_Rs_copy_10 : decode bb_Rs_copy 10 = .ok (.aload_n 1, 1) := by decide +kernel
theorem dd_Rs_copy_11 : decode bb_Rs_copy 11 = .ok (.getfield 12, 3) := by decide +kernel
theorem dd_Rs_copy_14 : decode bb_Rs_copy 14 = .ok (.invokevirtual 26, 3) := by decide +kernel
theorem dd_Rs_copy_17 : decode bb_Rs_copy 17 = .ok (.if_icmp .ge (28), 3) := by decide +kernel
theorem dd_Rs_copy_20 : decode bb_Rs_copy 20 = .ok (.aload_n 0, 1) := by decide +kernel
theorem dd_Rs_copy_21 : decode bb_Rs_copy 21 = .ok (.getfield 12, 3) := by decide +kernel
theorem dd_Rs_copy_24 : decode bb_Rs_copy 24 = .ok (.aload_n 1, 1) := by decide +kernel
theorem dd_Rs_copy_25 : decode bb_Rs_copy 25 = .ok (.getfield 12, 3) := by decide +kernel
theorem dd_Rs_copy_28 : decode bb_Rs_copy 28 = .ok (.iload_n 2, 1) := by decide +kernel
theorem dd_Rs_copy_29 : decode bb_Rs_copy 29 = .ok (.invokevirtual 30, 3) := by decide +kernel
theorem dd_Rs_copy_32 : decode bb_Rs_copy 32 = .ok (.checkcast 34, 3) := by decide +kernel
theorem dd_Rs_copy_35 : decode bb_Rs_copy 35 = .ok (.invokevirtual 50, 3) := by decide +kernel
theorem dd_Rs_copy_38 : decode bb_Rs_copy 38 = .ok (.pop, 1) := by decide +kernel
theorem dd_Rs_copy_39 : decode bb_Rs_copy 39 = .ok (.iinc 2 (1), 3) := by decide +kernel
theorem dd_Rs_copy_42 : decode bb_Rs_copy 42 = .ok (.goto (-33), 3) := by decide +kernel
theorem dd_Rs_copy_45 : decode bb_Rs_copy 45 = .ok (.aload_n 0, 1) := by decide +kernel
theorem dd_Rs_copy_46 : decode bb_Rs_copy 46 = .ok (.aload_n 1, 1) := by decide +kernel
theorem dd_Rs_copy_47 : decode bb_Rs_copy 47 = .ok (.getfield 64, 3) := by decide +kernel
theorem dd_Rs_copy_50 : decode bb_Rs_copy 50 = .ok (.putfield 64, 3) := by decide +kernel
theorem dd_Rs_copy_53 : decode bb_Rs_copy 53 = .ok (.aload_n 0, 1) := by decide +kernel
theorem dd_Rs_copy_54 : decode bb_Rs_copy 54 = .ok (.aload_n 1, 1) := by decide +kernel
theorem dd_Rs_copy_55 : decode bb_Rs_copy 55 = .ok (.getfield 68, 3) := by decide +kernel
theorem dd_Rs_copy_58 : decode bb_Rs_copy 58 = .ok (.putfield 68, 3) := by decide +kernel
theorem dd_Rs_copy_61 : decode bb_Rs_copy 61 = .ok (.aload_n 0, 1) := by decide +kernel
theorem dd_Rs_copy_62 : decode bb_Rs_copy 62 = .ok (.aload_n 1, 1) := by decide +kernel
theorem dd_Rs_copy_63 : decode bb_Rs_copy 63 = .ok (.getfield 72, 3) := by decide +kernel
theorem dd_Rs_copy_66 : decode bb_Rs_copy 66 = .ok (.putfield 72, 3) := by decide +kernel
theorem dd_Rs_copy_69 : decode bb_Rs_copy 69 = .ok (.return_, 1) := by decide +kernel
theorem dd_Rs_hasCertificate_0 : decode bb_Rs_hasCertificate 0 = .ok (.iload_n 1, 1) := by decide +kernel
theorem dd_Rs_hasCertificate_1 : decode bb_Rs_hasCertificate 1 = .ok (.ifCond .lt (18), 3) := by decide +kernel
theorem dd_Rs_hasCertificate_4 : decode bb_Rs_hasCertificate 4 = .ok (.iload_n 1, 1) := by decide +kernel
theorem dd_Rs_hasCertificate_5 : decode bb_Rs_hasCertificate 5 = .ok (.aload_n 0, 1) := by decide +kernel
theorem dd_Rs_hasCertificate_6 : decode bb_Rs_hasCertificate 6 = .ok (.getfield 12, 3) := by decide +kernel
theorem dd_Rs_hasCertificate_9 : decode bb_Rs_hasCertificate 9 = .ok (.invokevirtual 26, 3) := by decide +kernel
theorem dd_Rs_hasCertificate_12 : decode bb_Rs_hasCertificate 12 = .ok (.if_icmp .ge (7), 3) := by decide +kernel
theorem dd_Rs_hasCertificate_15 : decode bb_Rs_hasCertificate 15 = .ok (.iconst 1, 1) := by decide +kernel
theorem dd_Rs_hasCertificate_16 : decode bb_Rs_hasCertificate 16 = .ok (.goto (4), 3) := by decide +kernel
theorem dd_Rs_hasCertificate_19 : decode bb_Rs_hasCertificate 19 = .ok (.iconst 0, 1) := by decide +kernel
theorem dd_Rs_hasCertificate_20 : decode bb_Rs_hasCertificate 20 = .ok (.ireturn, 1) := by decide +kernel
theorem dd_Rs_certificate_0 : decode bb_Rs_certificate 0 = .ok (.aload_n 0, 1) := by decide +kernel
theorem dd_Rs_certificate_1 : decode bb_Rs_certificate 1 = .ok (.getfield 12, 3) := by decide +kernel
theorem dd_Rs_certificate_4 : decode bb_Rs_certificate 4 = .ok (.iload_n 1, 1) := by decide +kernel
theorem dd_Rs_certificate_5 : decode bb_Rs_certificate 5 = .ok (.invokevirtual 30, 3) := by decide +kernel
theorem dd_Rs_certificate_8 : decode bb_Rs_certificate 8 = .ok (.checkcast 34, 3) := by decide +kernel
theorem dd_Rs_certificate_11 : decode bb_Rs_certificate 11 = .ok (.areturn, 1) := by decide +kernel
theorem dd_Rs_keyCount_0 : decode bb_Rs_keyCount 0 = .ok (.aload_n 0, 1) := by decide +kernel
theorem dd_Rs_keyCount_1 : decode bb_Rs_keyCount 1 = .ok (.getfield 68, 3) := by decide +kernel
theorem dd_Rs_keyCount_4 : decode bb_Rs_keyCount 4 = .ok (.aload_n 0, 1) := by decide +kernel
theorem dd_Rs_keyCount_5 : decode bb_Rs_keyCount 5 = .ok (.getfield 64, 3) := by decide +kernel
theorem dd_Rs_keyCount_8 : decode bb_Rs_keyCount 8 = .ok (.isub, 1) := by decide +kernel
theorem dd_Rs_keyCount_9 : decode bb_Rs_keyCount 9 = .ok (.ireturn, 1) := by decide +kernel
