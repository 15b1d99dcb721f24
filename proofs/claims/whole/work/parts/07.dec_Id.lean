theorem dd_Id_init_0 : decode bb_Id_init 0 = .ok (.aload_n 0, 1) := by decide +kernel
theorem dd_Id_init_1 : decode bb_Id_init 1 = .ok (.invokespecial 3, 3) := by decide +kernel
theorem dd_Id_init_4 : decode bb_Id_init 4 = .ok (.aload_n 0, 1) := by decide +kernel
theorem dd_Id_init_5 : decode bb_Id_init 5 = .ok (.bipush (12), 2) := by decide +kernel
theorem dd_Id_init_7 : decode bb_Id_init 7 = .ok (.bipush (40), 2) := by decide +kernel
theorem dd_Id_init_9 : decode bb_Id_init 9 = .ok (.multianewarray 11 2, 4) := by decide +kernel
theorem dd_Id_init_13 : decode bb_Id_init 13 = .ok (.putfield 13, 3) := by decide +kernel
theorem dd_Id_init_16 : decode bb_Id_init 16 = .ok (.aload_n 0, 1) := by decide +kernel
theorem dd_Id_init_17 : decode bb_Id_init 17 = .ok (.bipush (12), 2) := by decide +kernel
theorem dd_Id_init_19 : decode bb_Id_init 19 = .ok (.newarray .int, 2) := by decide +kernel
theorem dd_Id_init_21 : decode bb_Id_init 21 = .ok (.putfield 16, 3) := by decide +kernel
theorem dd_Id_init_24 : decode bb_Id_init 24 = .ok (.aload_n 0, 1) := by decide +kernel
theorem dd_Id_init_25 : decode bb_Id_init 25 = .ok (.bipush (12), 2) := by decide +kernel
theorem dd_Id_init_27 : decode bb_Id_init 27 = .ok (.newarray .int, 2) := by decide +kernel
theorem dd_Id_init_29 : decode bb_Id_init 29 = .ok (.putfield 20, 3) := by decide +kernel
theorem dd_Id_init_32 : decode bb_Id_init 32 = .ok (.return_, 1) := by decide +kernel
theorem dd_Id_firstError_0 : decode bb_Id_firstError 0 = .ok (.aload_n 0, 1) := by decide +kernel
theorem dd_Id_firstError_1 : decode bb_Id_firstError 1 = .ok (.iload_n 1, 1) := by decide +kernel
theorem dd_Id_firstError_2 : decode bb_Id_firstError 2 = .ok (.iload_n 2, 1) := by decide +kernel
theorem dd_Id_firstError_3 : decode bb_Id_firstError 3 = .ok (.invokestatic 23, 3) := by decide +kernel
theorem dd_Id_firstError_6 : decode bb_Id_firstError 6 = .ok (.istore_n 3, 1) := by decide +kernel
theorem dd_Id_firstError_7 : decode bb_Id_firstError 7 = .ok (.iload_n 3, 1) := by decide +kernel
theorem dd_Id_firstError_8 : decode bb_Id_firstError 8 = .ok (.iconst (-1), 1) := by decide +kernel
theorem dd_Id_firstError_9 : decode bb_Id_firstError 9 = .ok (.if_icmp .ne (41), 3) := by decide +kernel
theorem dd_Id_firstError_12 : decode bb_Id_firstError 12 = .ok (.iload_n 1, 1) := by decide +kernel
theorem dd_Id_firstError_13 : decode bb_Id_firstError 13 = .ok (.ldc 27, 2) := by decide +kernel
theorem dd_Id_firstError_15 : decode bb_Id_firstError 15 = .ok (.invokevirtual 29, 3) := by decide +kernel
theorem dd_Id_firstError_18 : decode bb_Id_firstError 18 = .ok (.iadd, 1) := by decide +kernel
theorem dd_Id_firstError_19 : decode bb_Id_firstError 19 = .ok (.istore 4, 2) := by decide +kernel
theorem dd_Id_firstError_21 : decode bb_Id_firstError 21 = .ok (.aload_n 0, 1) := by decide +kernel
theorem dd_Id_firstError_22 : decode bb_Id_firstError 22 = .ok (.iload 4, 2) := by decide +kernel
theorem dd_Id_firstError_24 : decode bb_Id_firstError 24 = .ok (.iload_n 2, 1) := by decide +kernel
theorem dd_Id_firstError_25 : decode bb_Id_firstError 25 = .ok (.invokestatic 35, 3) := by decide +kernel
theorem dd_Id_firstError_28 : decode bb_Id_firstError 28 = .ok (.istore 5, 2) := by decide +kernel
theorem dd_Id_firstError_30 : decode bb_Id_firstError 30 = .ok (.iload 5, 2) := by decide +kernel
theorem dd_Id_firstError_32 : decode bb_Id_firstError 32 = .ok (.iload 4, 2) := by decide +kernel
theorem dd_Id_firstError_34 : decode bb_Id_firstError 34 = .ok (.if_icmp .ne (8), 3) := by decide +kernel
theorem dd_Id_firstError_37 : decode bb_Id_firstError 37 = .ok (.iload 4, 2) := by decide +kernel
theorem dd_Id_firstError_39 : decode bb_Id_firstError 39 = .ok (.goto (10), 3) := by decide +kernel
theorem dd_Id_firstError_42 : decode bb_Id_firstError 42 = .ok (.aload_n 0, 1) := by decide +kernel
theorem dd_Id_firstError_43 : decode bb_Id_firstError 43 = .ok (.iload 5, 2) := by decide +kernel
theorem dd_Id_firstError_45 : decode bb_Id_firstError 45 = .ok (.iload_n 2, 1) := by decide +kernel
theorem dd_Id_firstError_46 : decode bb_Id_firstError 46 = .ok (.invokestatic 38, 3) := by decide +kernel
theorem dd_Id_firstError_49 : decode bb_Id_firstError 49 = .ok (.istore_n 3, 1) := by decide +kernel
theorem dd_Id_firstError_50 : decode bb_Id_firstError 50 = .ok (.iload_n 1, 1) := by decide +kernel
theorem dd_Id_firstError_51 : decode bb_Id_firstError 51 = .ok (.bipush (40), 2) := by decide +kernel
theorem dd_Id_firstError_53 : decode bb_Id_firstError 53 = .ok (.iadd, 1) := by decide +kernel
theorem dd_Id_firstError_54 : decode bb_Id_firstError 54 = .ok (.istore 4, 2) := by decide +kernel
theorem dd_Id_firstError_56 : decode bb_Id_firstError 56 = .ok (.iload_n 2, 1) := by decide +kernel
theorem dd_Id_firstError_57 : decode bb_Id_firstError 57 = .ok (.iload 4, 2) := by decide +kernel
theorem dd_Id_firstError_59 : decode bb_Id_firstError 59 = .ok (.if_icmp .le (18), 3) := by decide +kernel
theorem dd_Id_firstError_62 : decode bb_Id_firstError 62 = .ok (.iload_n 3, 1) := by decide +kernel
theorem dd_Id_firstError_63 : decode bb_Id_firstError 63 = .ok (.iconst (-1), 1) := by decide +kernel
theorem dd_Id_firstError_64 : decode bb_Id_firstError 64 = .ok (.if_icmp .eq (9), 3) := by decide +kernel
theorem dd_Id_firstError_67 : decode bb_Id_firstError 67 = .ok (.iload_n 3, 1) := by decide +kernel
theorem dd_Id_firstError_68 : decode bb_Id_firstError 68 = .ok (.iload 4, 2) := by decide +kernel
theorem dd_Id_firstError_70 : decode bb_Id_firstError 70 = .ok (.if_icmp .le (7), 3) := by decide +kernel
theorem dd_Id_firstError_73 : decode bb_Id_firstError 73 = .ok (.iconst 1, 1) := by decide +kernel
theorem dd_Id_firstError_74 : decode bb_Id_firstError 74 = .ok (.goto (4), 3) := by decide +kernel
theorem dd_Id_firstError_77 : decode bb_Id_firstError 77 = .ok (.iconst 0, 1) := by decide +kernel
theorem dd_Id_firstError_78 : decode bb_Id_firstError 78 = .ok (.istore 5, 2) := by decide +kernel
theorem dd_Id_firstError_80 : decode bb_Id_firstError 80 = .ok (.iload 5, 2) := by decide +kernel
theorem dd_Id_firstError_82 : decode bb_Id_firstError 82 = .ok (.ifCond .eq (8), 3) := by decide +kernel
theorem dd_Id_firstError_85 : decode bb_Id_firstError 85 = .ok (.iload 4, 2) := by decide +kernel
theorem dd_Id_firstError_87 : decode bb_Id_firstError 87 = .ok (.goto (4), 3) := by decide +kernel
theorem dd_Id_firstError_90 : decode bb_Id_firstError 90 = .ok (.iload_n 3, 1) := by decide +kernel
theorem dd_Id_firstError_91 : decode bb_Id_firstError 91 = .ok (.ireturn, 1) := by decide +kernel
theorem dd_Id_schemeError_0 : decode bb_Id_schemeError 0 = .ok (.iconst 0, 1) := by decide +kernel
theorem dd_Id_schemeError_1 : decode bb_Id_schemeError 1 = .ok (.istore_n 3, 1) := by decide +kernel
theorem dd_Id_schemeError_2 : decode bb_Id_schemeError 2 = .ok (.iload_n 3, 1) := by decide +kernel
theorem dd_Id_schemeError_3 : decode bb_Id_schemeError 3 = .ok (.ldc 27, 2) := by decide +kernel
theorem dd_Id_schemeError_5 : decode bb_Id_schemeError 5 = .ok (.invokevirtual 29, 3) := by decide +kernel
theorem dd_Id_schemeError_8 : decode bb_Id_schemeError 8 = .ok (.if_icmp .ge (36), 3) := by decide +kernel
theorem dd_Id_schemeError_11 : decode bb_Id_schemeError 11 = .ok (.iload_n 1, 1) := by decide +kernel
theorem dd_Id_schemeError_12 : decode bb_Id_schemeError 12 = .ok (.iload_n 3, 1) := by decide +kernel
theorem dd_Id_schemeError_13 : decode bb_Id_schemeError 13 = .ok (.iadd, 1) := by decide +kernel
theorem dd_Id_schemeError_14 : decode bb_Id_schemeError 14 = .ok (.iload_n 2, 1) := by decide +kernel
theorem dd_Id_schemeError_15 : decode bb_Id_schemeError 15 = .ok (.if_icmp .ge (19), 3) := by decide +kernel
theorem dd_Id_schemeError_18 : decode bb_Id_schemeError 18 = .ok (.aload_n 0, 1) := by decide +kernel
theorem dd_Id_schemeError_19 : decode bb_Id_schemeError 19 = .ok (.iload_n 1, 1) := by decide +kernel
theorem dd_Id_schemeError_20 : decode bb_Id_schemeError 20 = .ok (.iload_n 3, 1) := by decide +kernel
theorem dd_Id_schemeError_21 : decode bb_Id_schemeError 21 = .ok (.iadd, 1) := by decide +kernel
theorem dd_Id_schemeError_22 : decode bb_Id_schemeError 22 = .ok (.invokevirtual 41, 3) := by decide +kernel
theorem dd_Id_schemeError_25 : decode bb_Id_schemeError 25 = .ok (.ldc 27, 2) := by decide +kernel
theorem dd_Id_schemeError_27 : decode bb_Id_schemeError 27 = .ok (.iload_n 3, 1) := by decide +kernel
theorem dd_Id_schemeError_28 : decode bb_Id_schemeError 28 = .ok (.invokevirtual 47, 3) := by decide +kernel
theorem dd_Id_schemeError_31 : decode bb_Id_schemeError 31 = .ok (.if_icmp .eq (7), 3) := by decide +kernel
theorem dd_Id_schemeError_34 : decode bb_Id_schemeError 34 = .ok (.iload_n 1, 1) := by decide +kernel
theorem dd_Id_schemeError_35 : decode bb_Id_schemeError 35 = .ok (.iload_n 3, 1) := by decide +kernel
theorem dd_Id_schemeError_36 : decode bb_Id_schemeError 36 = .ok (.iadd, 1) := by decide +kernel
theorem dd_Id_schemeError_37 : decode bb_Id_schemeError 37 = .ok (.ireturn, 1) := by decide +kernel
theorem dd_Id_schemeError_38 : decode bb_Id_schemeError 38 = .ok (.iinc 3 (1), 3) := by decide +kernel
theorem dd_Id_schemeError_41 : decode bb_Id_schemeError 41 = .ok (.goto (-39), 3) := by decide +kernel
theorem dd_Id_schemeError_44 : decode bb_Id_schemeError 44 = .ok (.iconst (-1), 1) := by decide +kernel
theorem dd_Id_schemeError_45 : decode bb_Id_schemeError 45 = .ok (.ireturn, 1) := by decide +kernel
theorem dd_Id_domainEnd_0 : decode bb_Id_domainEnd 0 = .ok (.iload_n 2, 1) := by decide +kernel
theorem dd_Id_domainEnd_1 : decode bb_Id_domainEnd 1 = .ok (.iload_n 1, 1) := by decide +kernel
theorem dd_Id_domainEnd_2 : decode bb_Id_domainEnd 2 = .ok (.bipush (12), 2) := by decide +kernel
theorem dd_Id_domainEnd_4 : decode bb_Id_domainEnd 4 = .ok (.iadd, 1) := by decide +kernel
theorem dd_Id_domainEnd_5 : decode bb_Id_domainEnd 5 = .ok (.invokestatic 51, 3) := by decide +kernel
theorem dd_Id_domainEnd_8 : decode bb_Id_domainEnd 8 = .ok (.istore_n 3, 1) := by decide +kernel
theorem dd_Id_domainEnd_9 : decode bb_Id_domainEnd 9 = .ok (.iload_n 1, 1) := by decide +kernel
theorem dd_Id_domainEnd_10 : decode bb_Id_domainEnd 10 = .ok (.istore 4, 2) := by decide +kernel
theorem dd_Id_domainEnd_12 : decode bb_Id_domainEnd 12 = .ok (.iload 4, 2) := by decide +kernel
theorem dd_Id_domainEnd_14 : decode bb_Id_domainEnd 14 = .ok (.iload_n 3, 1) := by decide +kernel
theorem dd_Id_domainEnd_15 : decode bb_Id_domainEnd 15 = .ok (.if_icmp .ge (25), 3) := by decide +kernel
theorem dd_Id_domainEnd_18 : decode bb_Id_domainEnd 18 = .ok (.aload_n 0, 1) := by decide +kernel
theorem dd_Id_domainEnd_19 : decode bb_Id_domainEnd 19 = .ok (.iload 4, 2) := by decide +kernel
theorem dd_Id_domainEnd_21 : decode bb_Id_domainEnd 21 = .ok (.invokevirtual 41, 3) := by decide +kernel
theorem dd_Id_domainEnd_24 : decode bb_Id_domainEnd 24 = .ok (.iconst 0, 1) := by decide +kernel
theorem dd_Id_domainEnd_25 : decode bb_Id_domainEnd 25 = .ok (.invokestatic 57, 3) := by decide +kernel
theorem dd_Id_domainEnd_28 : decode bb_Id_domainEnd 28 = .ok (.ifCond .ne (6), 3) := by decide +kernel
theorem dd_Id_domainEnd_31 : decode bb_Id_domainEnd 31 = .ok (.iload 4, 2) := by decide +kernel
theorem dd_Id_domainEnd_33 : decode bb_Id_domainEnd 33 = .ok (.ireturn, 1) := by decide +kernel
theorem dd_Id_domainEnd_34 : decode bb_Id_domainEnd 34 = .ok (.iinc 4 (1), 3) := by decide +kernel
theorem dd_Id_domainEnd_37 : decode bb_Id_domainEnd 37 = .ok (.goto (-25), 3) := by decide +kernel
theorem dd_Id_domainEnd_40 : decode bb_Id_domainEnd 40 = .ok (.iload_n 3, 1) := by decide +kernel
theorem dd_Id_domainEnd_41 : decode bb_Id_domainEnd 41 = .ok (.ireturn, 1) := by decide +kernel
theorem dd_Id_isNameCharacter_0 : decode bb_Id_isNameCharacter 0 = .ok (.iload_n 0, 1) := by decide +kernel
theorem dd_Id_isNameCharacter_1 : decode bb_Id_isNameCharacter 1 = .ok (.bipush (97), 2) := by decide +kernel
theorem dd_Id_isNameCharacter_3 : decode bb_Id_isNameCharacter 3 = .ok (.if_icmp .lt (9), 3) := by decide +kernel
theorem dd_Id_isNameCharacter_6 : decode bb_Id_isNameCharacter 6 = .ok (.iload_n 0, 1) := by decide +kernel
theorem dd_Id_isNameCharacter_7 : decode bb_Id_isNameCharacter 7 = .ok (.bipush (122), 2) := by decide +kernel
theorem dd_Id_isNameCharacter_9 : decode bb_Id_isNameCharacter 9 = .ok (.if_icmp .le (49), 3) := by decide +kernel
theorem dd_Id_isNameCharacter_12 : decode bb_Id_isNameCharacter 12 = .ok (.iload_n 0, 1) := by decide +kernel
theorem dd_Id_isNameCharacter_13 : decode bb_Id_isNameCharacter 13 = .ok (.bipush (48), 2) := by decide +kernel
theorem dd_Id_isNameCharacter_15 : decode bb_Id_isNameCharacter 15 = .ok (.if_icmp .lt (9), 3) := by decide +kernel
theorem dd_Id_isNameCharacter_18 : decode bb_Id_isNameCharacter 18 = .ok (.iload_n 0, 1) := by decide +kernel
theorem dd_Id_isNameCharacter_19 : decode bb_Id_isNameCharacter 19 = .ok (.bipush (57), 2) := by decide +kernel
theorem dd_Id_isNameCharacter_21 : decode bb_Id_isNameCharacter 21 = .ok (.if_icmp .le (37), 3) := by decide +kernel
theorem dd_Id_isNameCharacter_24 : decode bb_Id_isNameCharacter 24 = .ok (.iload_n 0, 1) := by decide +kernel
theorem dd_Id_isNameCharacter_25 : decode bb_Id_isNameCharacter 25 = .ok (.bipush (46), 2) := by decide +kernel
theorem dd_Id_isNameCharacter_27 : decode bb_Id_isNameCharacter 27 = .ok (.if_icmp .eq (31), 3) := by decide +kernel
theorem dd_Id_isNameCharacter_30 : decode bb_Id_isNameCharacter 30 = .ok (.iload_n 0, 1) := by decide +kernel
theorem dd_Id_isNameCharacter_31 : decode bb_Id_isNameCharacter 31 = .ok (.bipush (45), 2) := by decide +kernel
theorem dd_Id_isNameCharacter_33 : decode bb_Id_isNameCharacter 33 = .ok (.if_icmp .eq (25), 3) := by decide +kernel
theorem dd_Id_isNameCharacter_36 : decode bb_Id_isNameCharacter 36 = .ok (.iload_n 0, 1) := by decide +kernel
theorem dd_Id_isNameCharacter_37 : decode bb_Id_isNameCharacter 37 = .ok (.bipush (95), 2) := by decide +kernel
theorem dd_Id_isNameCharacter_39 : decode bb_Id_isNameCharacter 39 = .ok (.if_icmp .eq (19), 3) := by decide +kernel
theorem dd_Id_isNameCharacter_42 : decode bb_Id_isNameCharacter 42 = .ok (.iload_n 1, 1) := by decide +kernel
theorem dd_Id_isNameCharacter_43 : decode bb_Id_isNameCharacter 43 = .ok (.ifCond .eq (19), 3) := by decide +kernel
theorem dd_Id_isNameCharacter_46 : decode bb_Id_isNameCharacter 46 = .ok (.iload_n 0, 1) := by decide +kernel
theorem dd_Id_isNameCharacter_47 : decode bb_Id_isNameCharacter 47 = .ok (.bipush (65), 2) := by decide +kernel
theorem dd_Id_isNameCharacter_49 : decode bb_Id_isNameCharacter 49 = .ok (.if_icmp .lt (13), 3) := by decide +kernel
theorem dd_Id_isNameCharacter_52 : decode bb_Id_isNameCharacter 52 = .ok (.iload_n 0, 1) := by decide +kernel
theorem dd_Id_isNameCharacter_53 : decode bb_Id_isNameCharacter 53 = .ok (.bipush (90), 2) := by decide +kernel
theorem dd_Id_isNameCharacter_55 : decode bb_Id_isNameCharacter 55 = .ok (.if_icmp .gt (7), 3) := by decide +kernel
theorem dd_Id_isNameCharacter_58 : decode bb_Id_isNameCharacter 58 = .ok (.iconst 1, 1) := by decide +kernel
theorem dd_Id_isNameCharacter_59 : decode bb_Id_isNameCharacter 59 = .ok (.goto (4), 3) := by decide +kernel
theorem dd_Id_isNameCharacter_62 : decode bb_Id_isNameCharacter 62 = .ok (.iconst 0, 1) := by decide +kernel
theorem dd_Id_isNameCharacter_63 : decode bb_Id_isNameCharacter 63 = .ok (.ireturn, 1) := by decide +kernel
theorem dd_Id_pathError_0 : decode bb_Id_pathError 0 = .ok (.iload_n 1, 1) := by decide +kernel
theorem dd_Id_pathError_1 : decode bb_Id_pathError 1 = .ok (.istore_n 3, 1) := by decide +kernel
theorem dd_Id_pathError_2 : decode bb_Id_pathError 2 = .ok (.iload_n 3, 1) := by decide +kernel
theorem dd_Id_pathError_3 : decode bb_Id_pathError 3 = .ok (.iload_n 2, 1) := by decide +kernel
theorem dd_Id_pathError_4 : decode bb_Id_pathError 4 = .ok (.if_icmp .ge (70), 3) := by decide +kernel
theorem dd_Id_pathError_7 : decode bb_Id_pathError 7 = .ok (.iload_n 3, 1) := by decide +kernel
theorem dd_Id_pathError_8 : decode bb_Id_pathError 8 = .ok (.iload_n 1, 1) := by decide +kernel
theorem dd_Id_pathError_9 : decode bb_Id_pathError 9 = .ok (.if_icmp .le (19), 3) := by decide +kernel
theorem dd_Id_pathError_12 : decode bb_Id_pathError 12 = .ok (.aload_n 0, 1) := by decide +kernel
theorem dd_Id_pathError_13 : decode bb_Id_pathError 13 = .ok (.iload_n 3, 1) := by decide +kernel
theorem dd_Id_pathError_14 : decode bb_Id_pathError 14 = .ok (.invokevirtual 41, 3) := by decide +kernel
theorem dd_Id_pathError_17 : decode bb_Id_pathError 17 = .ok (.iconst 1, 1) := by decide +kernel
theorem dd_Id_pathError_18 : decode bb_Id_pathError 18 = .ok (.invokestatic 57, 3) := by decide +kernel
theorem dd_Id_pathError_21 : decode bb_Id_pathError 21 = .ok (.ifCond .eq (7), 3) := by decide +kernel
theorem dd_Id_pathError_24 : decode bb_Id_pathError 24 = .ok (.iconst 1, 1) := by decide +kernel
theorem dd_Id_pathError_25 : decode bb_Id_pathError 25 = .ok (.goto (4), 3) := by decide +kernel
theorem dd_Id_pathError_28 : decode bb_Id_pathError 28 = .ok (.iconst 0, 1) := by decide +kernel
theorem dd_Id_pathError_29 : decode bb_Id_pathError 29 = .ok (.istore 4, 2) := by decide +kernel
theorem dd_Id_pathError_31 : decode bb_Id_pathError 31 = .ok (.iload 4, 2) := by decide +kernel
theorem dd_Id_pathError_33 : decode bb_Id_pathError 33 = .ok (.ifCond .ne (15), 3) := by decide +kernel
theorem dd_Id_pathError_36 : decode bb_Id_pathError 36 = .ok (.aload_n 0, 1) := by decide +kernel
theorem dd_Id_pathError_37 : decode bb_Id_pathError 37 = .ok (.iload_n 3, 1) := by decide +kernel
theorem dd_Id_pathError_38 : decode bb_Id_pathError 38 = .ok (.invokevirtual 41, 3) := by decide +kernel
theorem dd_Id_pathError_41 : decode bb_Id_pathError 41 = .ok (.bipush (47), 2) := by decide +kernel
theorem dd_Id_pathError_43 : decode bb_Id_pathError 43 = .ok (.if_icmp .eq (5), 3) := by decide +kernel
theorem dd_Id_pathError_46 : decode bb_Id_pathError 46 = .ok (.iload_n 3, 1) := by decide +kernel
theorem dd_Id_pathError_47 : decode bb_Id_pathError 47 = .ok (.ireturn, 1) := by decide +kernel
theorem dd_Id_pathError_48 : decode bb_Id_pathError 48 = .ok (.iload 4, 2) := by decide +kernel
theorem dd_Id_pathError_50 : decode bb_Id_pathError 50 = .ok (.ifCond .ne (18), 3) := by decide +kernel
theorem dd_Id_pathError_53 : decode bb_Id_pathError 53 = .ok (.aload_n 0, 1) := by decide +kernel
theorem dd_Id_pathError_54 : decode bb_Id_pathError 54 = .ok (.iload_n 3, 1) := by decide +kernel
theorem dd_Id_pathError_55 : decode bb_Id_pathError 55 = .ok (.iconst 1, 1) := by decide +kernel
theorem dd_Id_pathError_56 : decode bb_Id_pathError 56 = .ok (.iadd, 1) := by decide +kernel
theorem dd_Id_pathError_57 : decode bb_Id_pathError 57 = .ok (.iload_n 2, 1) := by decide +kernel
theorem dd_Id_pathError_58 : decode bb_Id_pathError 58 = .ok (.invokestatic 61, 3) := by decide +kernel
theorem dd_Id_pathError_61 : decode bb_Id_pathError 61 = .ok (.ifCond .ne (7), 3) := by decide +kernel
theorem dd_Id_pathError_64 : decode bb_Id_pathError 64 = .ok (.iload_n 3, 1) := by decide +kernel
theorem dd_Id_pathError_65 : decode bb_Id_pathError 65 = .ok (.iconst 1, 1) := by decide +kernel
theorem dd_Id_pathError_66 : decode bb_Id_pathError 66 = .ok (.iadd, 1) := by decide +kernel
theorem dd_Id_pathError_67 : decode bb_Id_pathError 67 = .ok (.ireturn, 1) := by decide +kernel
theorem dd_Id_pathError_68 : decode bb_Id_pathError 68 = .ok (.iinc 3 (1), 3) := by decide +kernel
theorem dd_Id_pathError_71 : decode bb_Id_pathError 71 = .ok (.goto (-69), 3) := by decide +kernel
theorem dd_Id_pathError_74 : decode bb_Id_pathError 74 = .ok (.iconst (-1), 1) := by decide +kernel
theorem dd_Id_pathError_75 : decode bb_Id_pathError 75 = .ok (.ireturn, 1) := by decide +kernel
theorem dd_Id_isSegment_0 : decode bb_Id_isSegment 0 = .ok (.iload_n 1, 1) := by decide +kernel
theorem dd_Id_isSegment_1 : decode bb_Id_isSegment 1 = .ok (.istore_n 3, 1) := by decide +kernel
theorem dd_Id_isSegment_2 : decode bb_Id_isSegment 2 = .ok (.iconst 1, 1) := by decide +kernel
theorem dd_Id_isSegment_3 : decode bb_Id_isSegment 3 = .ok (.istore 4, 2) := by decide +kernel
theorem dd_Id_isSegment_5 : decode bb_Id_isSegment 5 = .ok (.iload_n 3, 1) := by decide +kernel
theorem dd_Id_isSegment_6 : decode bb_Id_isSegment 6 = .ok (.iload_n 2, 1) := by decide +kernel
theorem dd_Id_isSegment_7 : decode bb_Id_isSegment 7 = .ok (.if_icmp .ge (43), 3) := by decide +kernel
theorem dd_Id_isSegment_10 : decode bb_Id_isSegment 10 = .ok (.aload_n 0, 1) := by decide +kernel
theorem dd_Id_isSegment_11 : decode bb_Id_isSegment 11 = .ok (.iload_n 3, 1) := by decide +kernel
theorem dd_Id_isSegment_12 : decode bb_Id_isSegment 12 = .ok (.invokevirtual 41, 3) := by decide +kernel
theorem dd_Id_isSegment_15 : decode bb_Id_isSegment 15 = .ok (.iconst 1, 1) := by decide +kernel
theorem dd_Id_isSegment_16 : decode bb_Id_isSegment 16 = .ok (.invokestatic 57, 3) := by decide +kernel
theorem dd_Id_isSegment_19 : decode bb_Id_isSegment 19 = .ok (.ifCond .eq (31), 3) := by decide +kernel
theorem dd_Id_isSegment_22 : decode bb_Id_isSegment 22 = .ok (.iload 4, 2) := by decide +kernel
theorem dd_Id_isSegment_24 : decode bb_Id_isSegment 24 = .ok (.ifCond .eq (17), 3) := by decide +kernel
theorem dd_Id_isSegment_27 : decode bb_Id_isSegment 27 = .ok (.aload_n 0, 1) := by decide +kernel
theorem dd_Id_isSegment_28 : decode bb_Id_isSegment 28 = .ok (.iload_n 3, 1) := by decide +kernel
theorem dd_Id_isSegment_29 : decode bb_Id_isSegment 29 = .ok (.invokevirtual 41, 3) := by decide +kernel
theorem dd_Id_isSegment_32 : decode bb_Id_isSegment 32 = .ok (.bipush (46), 2) := by decide +kernel
theorem dd_Id_isSegment_34 : decode bb_Id_isSegment 34 = .ok (.if_icmp .ne (7), 3) := by decide +kernel
theorem dd_Id_isSegment_37 : decode bb_Id_isSegment 37 = .ok (.iconst 1, 1) := by decide +kernel
theorem dd_Id_isSegment_38 : decode bb_Id_isSegment 38 = .ok (.goto (4), 3) := by decide +kernel
theorem dd_Id_isSegment_41 : decode bb_Id_isSegment 41 = .ok (.iconst 0, 1) := by decide +kernel
theorem dd_Id_isSegment_42 : decode bb_Id_isSegment 42 = .ok (.istore 4, 2) := by decide +kernel
theorem dd_Id_isSegment_44 : decode bb_Id_isSegment 44 = .ok (.iinc 3 (1), 3) := by decide +kernel
theorem dd_Id_isSegment_47 : decode bb_Id_isSegment 47 = .ok (.goto (-42), 3) := by decide +kernel
theorem dd_Id_isSegment_50 : decode bb_Id_isSegment 50 = .ok (.iload 4, 2) := by decide +kernel
theorem dd_Id_isSegment_52 : decode bb_Id_isSegment 52 = .ok (.ifCond .eq (10), 3) := by decide +kernel
theorem dd_Id_isSegment_55 : decode bb_Id_isSegment 55 = .ok (.iload_n 3, 1) := by decide +kernel
theorem dd_Id_isSegment_56 : decode bb_Id_isSegment 56 = .ok (.iload_n 1, 1) := by decide +kernel
theorem dd_Id_isSegment_57 : decode bb_Id_isSegment 57 = .ok (.isub, 1) := by decide +kernel
theorem dd_Id_isSegment_58 : decode bb_Id_isSegment 58 = .ok (.iconst 2, 1) := by decide +kernel
theorem dd_Id_isSegment_59 : decode bb_Id_isSegment 59 = .ok (.if_icmp .le (7), 3) := by decide +kernel
theorem dd_Id_isSegment_62 : decode bb_Id_isSegment 62 = .ok (.iconst 1, 1) := by decide +kernel
theorem dd_Id_isSegment_63 : decode bb_Id_isSegment 63 = .ok (.goto (4), 3) := by decide +kernel
theorem dd_Id_isSegment_66 : decode bb_Id_isSegment 66 = .ok (.iconst 0, 1) := by decide +kernel
theorem dd_Id_isSegment_67 : decode bb_Id_isSegment 67 = .ok (.ireturn, 1) := by decide +kernel
theorem dd_Id_find_0 : decode bb_Id_find 0 = .ok (.iconst 0, 1) := by decide +kernel
theorem dd_Id_find_1 : decode bb_Id_find 1 = .ok (.istore_n 2, 1) := by decide +kernel
theorem dd_Id_find_2 : decode bb_Id_find 2 = .ok (.iload_n 2, 1) := by decide +kernel
theorem dd_Id_find_3 : decode bb_Id_find 3 = .ok (.aload_n 0, 1) := by decide +kernel
theorem dd_Id_find_4 : decode bb_Id_find 4 = .ok (.getfield 65, 3) := by decide +kernel
theorem dd_Id_find_7 : decode bb_Id_find 7 = .ok (.if_icmp .ge (20), 3) := by decide +kernel
theorem dd_Id_find_10 : decode bb_Id_find 10 = .ok (.aload_n 0, 1) := by decide +kernel
theorem dd_Id_find_11 : decode bb_Id_find 11 = .ok (.iload_n 2, 1) := by decide +kernel
theorem dd_Id_find_12 : decode bb_Id_find 12 = .ok (.aload_n 1, 1) := by decide +kernel
theorem dd_Id_find_13 : decode bb_Id_find 13 = .ok (.invokevirtual 69, 3) := by decide +kernel
theorem dd_Id_find_16 : decode bb_Id_find 16 = .ok (.ifCond .eq (5), 3) := by decide +kernel
theorem dd_Id_find_19 : decode bb_Id_find 19 = .ok (.iload_n 2, 1) := by decide +kernel
theorem dd_Id_find_20 : decode bb_Id_find 20 = .ok (.ireturn, 1) := by decide +kernel
theorem dd_Id_find_21 : decode bb_Id_find 21 = .ok (.iinc 2 (1), 3) := by decide +kernel
theorem dd_Id_find_24 : decode bb_Id_find 24 = .ok (.goto (-22), 3) := by decide +kernel
theorem dd_Id_find_27 : decode bb_Id_find 27 = .ok (.iconst (-1), 1) := by decide +kernel
theorem dd_Id_find_28 : decode bb_Id_find 28 = .ok (.ireturn, 1) := by decide +kernel
theorem dd_Id_isText_0 : decode bb_Id_isText 0 = .ok (.aload_n 0, 1) := by decide +kernel
theorem dd_Id_isText_1 : decode bb_Id_isText 1 = .ok (.getfield 16, 3) := by decide +kernel
theorem dd_Id_isText_4 : decode bb_Id_isText 4 = .ok (.iload_n 1, 1) := by decide +kernel
theorem dd_Id_isText_5 : decode bb_Id_isText 5 = .ok (.iaload, 1) := by decide +kernel
theorem dd_Id_isText_6 : decode bb_Id_isText 6 = .ok (.aload_n 2, 1) := by decide +kernel
theorem dd_Id_isText_7 : decode bb_Id_isText 7 = .ok (.invokevirtual 73, 3) := by decide +kernel
theorem dd_Id_isText_10 : decode bb_Id_isText 10 = .ok (.if_icmp .eq (5), 3) := by decide +kernel
theorem dd_Id_isText_13 : decode bb_Id_isText 13 = .ok (.iconst 0, 1) := by decide +kernel
theorem dd_Id_isText_14 : decode bb_Id_isText 14 = .ok (.ireturn, 1) := by decide +kernel
theorem dd_Id_isText_15 : decode bb_Id_isText 15 = .ok (.iconst 0, 1) := by decide +kernel
theorem dd_Id_isText_16 : decode bb_Id_isText 16 = .ok (.istore_n 3, 1) := by decide +kernel
theorem dd_Id_isText_17 : decode bb_Id_isText 17 = .ok (.iload_n 3, 1) := by decide +kernel
theorem dd_Id_isText_18 : decode bb_Id_isText 18 = .ok (.aload_n 0, 1) := by decide +kernel
theorem dd_Id_isText_19 : decode bb_Id_isText 19 = .ok (.getfield 16, 3) := by decide +kernel
theorem dd_Id_isText_22 : decode bb_Id_isText 22 = .ok (.iload_n 1, 1) := by decide +kernel
theorem dd_Id_isText_23 : decode bb_Id_isText 23 = .ok (.iaload, 1) := by decide +kernel
theorem dd_Id_isText_24 : decode bb_Id_isText 24 = .ok (.if_icmp .ge (27), 3) := by decide +kernel
theorem dd_Id_isText_27 : decode bb_Id_isText 27 = .ok (.aload_n 0, 1) := by decide +kernel
theorem dd_Id_isText_28 : decode bb_Id_isText 28 = .ok (.getfield 13, 3) := by decide +kernel
theorem dd_Id_isText_31 : decode bb_Id_isText 31 = .ok (.iload_n 1, 1) := by decide +kernel
theorem dd_Id_isText_32 : decode bb_Id_isText 32 = .ok (.aaload, 1) := by decide +kernel
theorem dd_Id_isText_33 : decode bb_Id_isText 33 = .ok (.iload_n 3, 1) := by decide +kernel
theorem dd_Id_isText_34 : decode bb_Id_isText 34 = .ok (.iaload, 1) := by decide +kernel
theorem dd_Id_isText_35 : decode bb_Id_isText 35 = .ok (.aload_n 2, 1) := by decide +kernel
theorem dd_Id_isText_36 : decode bb_Id_isText 36 = .ok (.iload_n 3, 1) := by decide +kernel
theorem dd_Id_isText_37 : decode bb_Id_isText 37 = .ok (.invokevirtual 41, 3) := by decide +kernel
theorem dd_Id_isText_40 : decode bb_Id_isText 40 = .ok (.if_icmp .eq (5), 3) := by decide +kernel
theorem dd_Id_isText_43 : decode bb_Id_isText 43 = .ok (.iconst 0, 1) := by decide +kernel
theorem dd_Id_isText_44 : decode bb_Id_isText 44 = .ok (.ireturn, 1) := by decide +kernel
theorem dd_Id_isText_45 : decode bb_Id_isText 45 = .ok (.iinc 3 (1), 3) := by decide +kernel
theorem dd_Id_isText_48 : decode bb_Id_isText 48 = .ok (.goto (-31), 3) := by decide +kernel
theorem dd_Id_isText_51 : decode bb_Id_isText 51 = .ok (.iconst 1, 1) := by decide +kernel
theorem dd_Id_isText_52 : decode bb_Id_isText 52 = .ok (.ireturn, 1) := by decide +kernel
theorem dd_Id_isFull_0 : decode bb_Id_isFull 0 = .ok (.aload_n 0, 1) := by decide +kernel
theorem dd_Id_isFull_1 : decode bb_Id_isFull 1 = .ok (.getfield 65, 3) := by decide +kernel
theorem dd_Id_isFull_4 : decode bb_Id_isFull 4 = .ok (.bipush (12), 2) := by decide +kernel
theorem dd_Id_isFull_6 : decode bb_Id_isFull 6 = .ok (.if_icmp .lt (7), 3) := by decide +kernel
theorem dd_Id_isFull_9 : decode bb_Id_isFull 9 = .ok (.iconst 1, 1) := by decide +kernel
theorem dd_Id_isFull_10 : decode bb_Id_isFull 10 = .ok (.goto (4), 3) := by decide +kernel
theorem dd_Id_isFull_13 : decode bb_Id_isFull 13 = .ok (.iconst 0, 1) := by decide +kernel
theorem dd_Id_isFull_14 : decode bb_Id_isFull 14 = .ok (.ireturn, 1) := by decide +kernel
theorem dd_Id_add_0 : decode bb_Id_add 0 = .ok (.aload_n 1, 1) := by decide +kernel
theorem dd_Id_add_1 : decode bb_Id_add 1 = .ok (.invokevirtual 73, 3) := by decide +kernel
theorem dd_Id_add_4 : decode bb_Id_add 4 = .ok (.bipush (40), 2) := by decide +kernel
theorem dd_Id_add_6 : decode bb_Id_add 6 = .ok (.invokestatic 51, 3) := by decide +kernel
theorem dd_Id_add_9 : decode bb_Id_add 9 = .ok (.istore_n 2, 1) := by decide +kernel
theorem dd_Id_add_10 : decode bb_Id_add 10 = .ok (.iconst 0, 1) := by decide +kernel
theorem dd_Id_add_11 : decode bb_Id_add 11 = .ok (.istore_n 3, 1) := by decide +kernel
theorem dd_Id_add_12 : decode bb_Id_add 12 = .ok (.iload_n 3, 1) := by decide +kernel
theorem dd_Id_add_13 : decode bb_Id_add 13 = .ok (.iload_n 2, 1) := by decide +kernel
theorem dd_Id_add_14 : decode bb_Id_add 14 = .ok (.if_icmp .ge (25), 3) := by decide +kernel
theorem dd_Id_add_17 : decode bb_Id_add 17 = .ok (.aload_n 0, 1) := by decide +kernel
theorem dd_Id_add_18 : decode bb_Id_add 18 = .ok (.getfield 13, 3) := by decide +kernel
theorem dd_Id_add_21 : decode bb_Id_add 21 = .ok (.aload_n 0, 1) := by decide +kernel
theorem dd_Id_add_22 : decode bb_Id_add 22 = .ok (.getfield 65, 3) := by decide +kernel
theorem dd_Id_add_25 : decode bb_Id_add 25 = .ok (.aaload, 1) := by decide +kernel
theorem dd_Id_add_26 : decode bb_Id_add 26 = .ok (.iload_n 3, 1) := by decide +kernel
theorem dd_Id_add_27 : decode bb_Id_add 27 = .ok (.aload_n 1, 1) := by decide +kernel
theorem dd_Id_add_28 : decode bb_Id_add 28 = .ok (.iload_n 3, 1) := by decide +kernel
theorem dd_Id_add_29 : decode bb_Id_add 29 = .ok (.invokevirtual 41, 3) := by decide +kernel
theorem dd_Id_add_32 : decode bb_Id_add 32 = .ok (.iastore, 1) := by decide +kernel
theorem dd_Id_add_33 : decode bb_Id_add 33 = .ok (.iinc 3 (1), 3) := by decide +kernel
theorem dd_Id_add_36 : decode bb_Id_add 36 = .ok (.goto (-24), 3) := by decide +kernel
theorem dd_Id_add_39 : decode bb_Id_add 39 = .ok (.aload_n 0, 1) := by decide +kernel
theorem dd_Id_add_40 : decode bb_Id_add 40 = .ok (.getfield 16, 3) := by decide +kernel
theorem dd_Id_add_43 : decode bb_Id_add 43 = .ok (.aload_n 0, 1) := by decide +kernel
theorem dd_Id_add_44 : decode bb_Id_add 44 = .ok (.getfield 65, 3) := by decide +kernel
theorem dd_Id_add_47 : decode bb_Id_add 47 = .ok (.iload_n 2, 1) := by decide +kernel
theorem dd_Id_add_48 : decode bb_Id_add 48 = .ok (.iastore, 1) := by decide +kernel
theorem dd_Id_add_49 : decode bb_Id_add 49 = .ok (.aload_n 0, 1) := by decide +kernel
theorem dd_Id_add_50 : decode bb_Id_add 50 = .ok (.getfield 20, 3) := by decide +kernel
theorem dd_Id_add_53 : decode bb_Id_add 53 = .ok (.aload_n 0, 1) := by decide +kernel
theorem dd_Id_add_54 : decode bb_Id_add 54 = .ok (.getfield 65, 3) := by decide +kernel
theorem dd_Id_add_57 : decode bb_Id_add 57 = .ok (.aload_n 1, 1) := by decide +kernel
theorem dd_Id_add_58 : decode bb_Id_add 58 = .ok (.ldc 27, 2) := by decide +kernel
theorem dd_Id_add_60 : decode bb_Id_add 60 = .ok (.invokevirtual 29, 3) := by decide +kernel
theorem dd_Id_add_63 : decode bb_Id_add 63 = .ok (.iload_n 2, 1) := by decide +kernel
theorem dd_Id_add_64 : decode bb_Id_add 64 = .ok (.invokestatic 35, 3) := by decide +kernel
theorem dd_Id_add_67 : decode bb_Id_add 67 = .ok (.iastore, 1) := by decide +kernel
theorem dd_Id_add_68 : decode bb_Id_add 68 = .ok (.aload_n 0, 1) := by decide +kernel
theorem dd_Id_add_69 : decode bb_Id_add 69 = .ok (.dup, 1) := by decide +kernel
theorem dd_Id_add_70 : decode bb_Id_add 70 = .ok (.getfield 65, 3) := by decide +kernel
theorem dd_Id_add_73 : decode bb_Id_add 73 = .ok (.iconst 1, 1) := by decide +kernel
theorem dd_Id_add_74 : decode bb_Id_add 74 = .ok (.iadd, 1) := by decide +kernel
theorem dd_Id_add_75 : decode bb_Id_add 75 = .ok (.putfield 65, 3) := by decide +kernel
theorem dd_Id_add_78 : decode bb_Id_add 78 = .ok (.aload_n 0, 1) := by decide +kernel
theorem dd_Id_add_79 : decode bb_Id_add 79 = .ok (.getfield 65, 3) := by decide +kernel
theorem dd_Id_add_82 : decode bb_Id_add 82 = .ok (.iconst 1, 1) := by decide +kernel
theorem dd_Id_add_83 : decode bb_Id_add 83 = .ok (.isub, 1) := by decide +kernel
theorem dd_Id_add_84 : decode bb_Id_add 84 = .ok (.ireturn, 1) := by decide +kernel
theorem dd_Id_isThere_0 : decode bb_Id_isThere 0 = .ok (.iload_n 1, 1) := by decide +kernel
theorem dd_Id_isThere_1 : decode bb_Id_isThere 1 = .ok (.ifCond .lt (15), 3) := by decide +kernel
theorem dd_Id_isThere_4 : decode bb_Id_isThere 4 = .ok (.iload_n 1, 1) := by decide +kernel
theorem dd_Id_isThere_5 : decode bb_Id_isThere 5 = .ok (.aload_n 0, 1) := by decide +kernel
theorem dd_Id_isThere_6 : decode bb_Id_isThere 6 = .ok (.getfield 65, 3) := by decide +kernel
theorem dd_Id_isThere_9 : decode bb_Id_isThere 9 = .ok (.if_icmp .ge (7), 3) := by decide +kernel
theorem dd_Id_isThere_12 : decode bb_Id_isThere 12 = .ok (.iconst 1, 1) := by decide +kernel
theorem dd_Id_isThere_13 : decode bb_Id_isThere 13 = .ok (.goto (4), 3) := by decide +kernel
theorem dd_Id_isThere_16 : decode bb_Id_isThere 16 = .ok (.iconst 0, 1) := by decide +kernel
theorem dd_Id_isThere_17 : decode bb_Id_isThere 17 = .ok (.ireturn, 1) := by decide +kernel
theorem dd_Id_mayBeHeld_0 : decode bb_Id_mayBeHeld 0 = .ok (.iload_n 1, 1) := by decide +kernel
theorem dd_Id_mayBeHeld_1 : decode bb_Id_mayBeHeld 1 = .ok (.ifCond .eq (30), 3) := by decide +kernel
theorem dd_Id_mayBeHeld_4 : decode bb_Id_mayBeHeld 4 = .ok (.aload_n 0, 1) := by decide +kernel
theorem dd_Id_mayBeHeld_5 : decode bb_Id_mayBeHeld 5 = .ok (.getfield 16, 3) := by decide +kernel
theorem dd_Id_mayBeHeld_8 : decode bb_Id_mayBeHeld 8 = .ok (.iload_n 1, 1) := by decide +kernel
theorem dd_Id_mayBeHeld_9 : decode bb_Id_mayBeHeld 9 = .ok (.iaload, 1) := by decide +kernel
theorem dd_Id_mayBeHeld_10 : decode bb_Id_mayBeHeld 10 = .ok (.aload_n 0, 1) := by decide +kernel
theorem dd_Id_mayBeHeld_11 : decode bb_Id_mayBeHeld 11 = .ok (.getfield 20, 3) := by decide +kernel
theorem dd_Id_mayBeHeld_14 : decode bb_Id_mayBeHeld 14 = .ok (.iload_n 1, 1) := by decide +kernel
theorem dd_Id_mayBeHeld_15 : decode bb_Id_mayBeHeld 15 = .ok (.iaload, 1) := by decide +kernel
theorem dd_Id_mayBeHeld_16 : decode bb_Id_mayBeHeld 16 = .ok (.if_icmp .le (15), 3) := by decide +kernel
theorem dd_Id_mayBeHeld_19 : decode bb_Id_mayBeHeld 19 = .ok (.aload_n 0, 1) := by decide +kernel
theorem dd_Id_mayBeHeld_20 : decode bb_Id_mayBeHeld 20 = .ok (.iload_n 1, 1) := by decide +kernel
theorem dd_Id_mayBeHeld_21 : decode bb_Id_mayBeHeld 21 = .ok (.invokevirtual 78, 3) := by decide +kernel
theorem dd_Id_mayBeHeld_24 : decode bb_Id_mayBeHeld 24 = .ok (.ifCond .eq (7), 3) := by decide +kernel
theorem dd_Id_mayBeHeld_27 : decode bb_Id_mayBeHeld 27 = .ok (.iconst 1, 1) := by decide +kernel
theorem dd_Id_mayBeHeld_28 : decode bb_Id_mayBeHeld 28 = .ok (.goto (4), 3) := by decide +kernel
theorem dd_Id_mayBeHeld_31 : decode bb_Id_mayBeHeld 31 = .ok (.iconst 0, 1) := by decide +kernel
theorem dd_Id_mayBeHeld_32 : decode bb_Id_mayBeHeld 32 = .ok (.ireturn, 1) := by decide +kernel
theorem dd_Id_isOurs_0 : decode bb_Id_isOurs 0 = .ok (.aload_n 0, 1) := by decide +kernel
theorem dd_Id_isOurs_1 : decode bb_Id_isOurs 1 = .ok (.getfield 20, 3) := by decide +kernel
theorem dd_Id_isOurs_4 : decode bb_Id_isOurs 4 = .ok (.iload_n 1, 1) := by decide +kernel
theorem dd_Id_isOurs_5 : decode bb_Id_isOurs 5 = .ok (.iaload, 1) := by decide +kernel
theorem dd_Id_isOurs_6 : decode bb_Id_isOurs 6 = .ok (.aload_n 0, 1) := by decide +kernel
theorem dd_Id_isOurs_7 : decode bb_Id_isOurs 7 = .ok (.getfield 20, 3) := by decide +kernel
theorem dd_Id_isOurs_10 : decode bb_Id_isOurs 10 = .ok (.iconst 0, 1) := by decide +kernel
theorem dd_Id_isOurs_11 : decode bb_Id_isOurs 11 = .ok (.iaload, 1) := by decide +kernel
theorem dd_Id_isOurs_12 : decode bb_Id_isOurs 12 = .ok (.if_icmp .eq (5), 3) := by decide +kernel
theorem dd_Id_isOurs_15 : decode bb_Id_isOurs 15 = .ok (.iconst 0, 1) := by decide +kernel
theorem dd_Id_isOurs_16 : decode bb_Id_isOurs 16 = .ok (.ireturn, 1) := by decide +kernel
theorem dd_Id_isOurs_17 : decode bb_Id_isOurs 17 = .ok (.ldc 27, 2) := by decide +kernel
theorem dd_Id_isOurs_19 : decode bb_Id_isOurs 19 = .ok (.invokevirtual 29, 3) := by decide +kernel
theorem dd_Id_isOurs_22 : decode bb_Id_isOurs 22 = .ok (.istore_n 2, 1) := by decide +kernel
theorem dd_Id_isOurs_23 : decode bb_Id_isOurs 23 = .ok (.iload_n 2, 1) := by decide +kernel
theorem dd_Id_isOurs_24 : decode bb_Id_isOurs 24 = .ok (.aload_n 0, 1) := by decide +kernel
theorem dd_Id_isOurs_25 : decode bb_Id_isOurs 25 = .ok (.getfield 20, 3) := by decide +kernel
theorem dd_Id_isOurs_28 : decode bb_Id_isOurs 28 = .ok (.iload_n 1, 1) := by decide +kernel
theorem dd_Id_isOurs_29 : decode bb_Id_isOurs 29 = .ok (.iaload, 1) := by decide +kernel
theorem dd_Id_isOurs_30 : decode bb_Id_isOurs 30 = .ok (.if_icmp .ge (30), 3) := by decide +kernel
theorem dd_Id_isOurs_33 : decode bb_Id_isOurs 33 = .ok (.aload_n 0, 1) := by decide +kernel
theorem dd_Id_isOurs_34 : decode bb_Id_isOurs 34 = .ok (.getfield 13, 3) := by decide +kernel
theorem dd_Id_isOurs_37 : decode bb_Id_isOurs 37 = .ok (.iload_n 1, 1) := by decide +kernel
theorem dd_Id_isOurs_38 : decode bb_Id_isOurs 38 = .ok (.aaload, 1) := by decide +kernel
theorem dd_Id_isOurs_39 : decode bb_Id_isOurs 39 = .ok (.iload_n 2, 1) := by decide +kernel
theorem dd_Id_isOurs_40 : decode bb_Id_isOurs 40 = .ok (.iaload, 1) := by decide +kernel
theorem dd_Id_isOurs_41 : decode bb_Id_isOurs 41 = .ok (.aload_n 0, 1) := by decide +kernel
theorem dd_Id_isOurs_42 : decode bb_Id_isOurs 42 = .ok (.getfield 13, 3) := by decide +kernel
theorem dd_Id_isOurs_45 : decode bb_Id_isOurs 45 = .ok (.iconst 0, 1) := by decide +kernel
theorem dd_Id_isOurs_46 : decode bb_Id_isOurs 46 = .ok (.aaload, 1) := by decide +kernel
theorem dd_Id_isOurs_47 : decode bb_Id_isOurs 47 = .ok (.iload_n 2, 1) := by decide +kernel
theorem dd_Id_isOurs_48 : decode bb_Id_isOurs 48 = .ok (.iaload, 1) := by decide +kernel
theorem dd_Id_isOurs_49 : decode bb_Id_isOurs 49 = .ok (.if_icmp .eq (5), 3) := by decide +kernel
theorem dd_Id_isOurs_52 : decode bb_Id_isOurs 52 = .ok (.iconst 0, 1) := by decide +kernel
theorem dd_Id_isOurs_53 : decode bb_Id_isOurs 53 = .ok (.ireturn, 1) := by decide +kernel
theorem dd_Id_isOurs_54 : decode bb_Id_isOurs 54 = .ok (.iinc 2 (1), 3) := by decide +kernel
theorem dd_Id_isOurs_57 : decode bb_Id_isOurs 57 = .ok (.goto (-34), 3) := by decide +kernel
theorem dd_Id_isOurs_60 : decode bb_Id_isOurs 60 = .ok (.iconst 1, 1) := by decide +kernel
theorem dd_Id_isOurs_61 : decode bb_Id_isOurs 61 = .ok (.ireturn, 1) := by decide +kernel
theorem dd_Id_writeTo_0 : decode bb_Id_writeTo 0 = .ok (.aload_n 1, 1) := by decide +kernel
theorem dd_Id_writeTo_1 : decode bb_Id_writeTo 1 = .ok (.aload_n 0, 1) := by decide +kernel
theorem dd_Id_writeTo_2 : decode bb_Id_writeTo 2 = .ok (.getfield 16, 3) := by decide +kernel
theorem dd_Id_writeTo_5 : decode bb_Id_writeTo 5 = .ok (.iload_n 2, 1) := by decide +kernel
theorem dd_Id_writeTo_6 : decode bb_Id_writeTo 6 = .ok (.iaload, 1) := by decide +kernel
theorem dd_Id_writeTo_7 : decode bb_Id_writeTo 7 = .ok (.invokevirtual 74, 3) := by decide +kernel
theorem dd_Id_writeTo_10 : decode bb_Id_writeTo 10 = .ok (.iconst 0, 1) := by decide +kernel
theorem dd_Id_writeTo_11 : decode bb_Id_writeTo 11 = .ok (.istore_n 3, 1) := by decide +kernel
theorem dd_Id_writeTo_12 : decode bb_Id_writeTo 12 = .ok (.iload_n 3, 1) := by decide +kernel
theorem dd_Id_writeTo_13 : decode bb_Id_writeTo 13 = .ok (.aload_n 0, 1) := by decide +kernel
theorem dd_Id_writeTo_14 : decode bb_Id_writeTo 14 = .ok (.getfield 16, 3) := by decide +kernel
theorem dd_Id_writeTo_17 : decode bb_Id_writeTo 17 = .ok (.iload_n 2, 1) := by decide +kernel
theorem dd_Id_writeTo_18 : decode bb_Id_writeTo 18 = .ok (.iaload, 1) := by decide +kernel
theorem dd_Id_writeTo_19 : decode bb_Id_writeTo 19 = .ok (.if_icmp .ge (21), 3) := by decide +kernel
theorem dd_Id_writeTo_22 : decode bb_Id_writeTo 22 = .ok (.aload_n 1, 1) := by decide +kernel
theorem dd_Id_writeTo_23 : decode bb_Id_writeTo 23 = .ok (.aload_n 0, 1) := by decide +kernel
theorem dd_Id_writeTo_24 : decode bb_Id_writeTo 24 = .ok (.getfield 13, 3) := by decide +kernel
theorem dd_Id_writeTo_27 : decode bb_Id_writeTo 27 = .ok (.iload_n 2, 1) := by decide +kernel
theorem dd_Id_writeTo_28 : decode bb_Id_writeTo 28 = .ok (.aaload, 1) := by decide +kernel
theorem dd_Id_writeTo_29 : decode bb_Id_writeTo 29 = .ok (.iload_n 3, 1) := by decide +kernel
theorem dd_Id_writeTo_30 : decode bb_Id_writeTo 30 = .ok (.iaload, 1) := by decide +kernel
theorem dd_Id_writeTo_31 : decode bb_Id_writeTo 31 = .ok (.invokevirtual 74, 3) := by decide +kernel
theorem dd_Id_writeTo_34 : decode bb_Id_writeTo 34 = .ok (.iinc 3 (1), 3) := by decide +kernel
theorem dd_Id_writeTo_37 : decode bb_Id_writeTo 37 = .ok (.goto (-25), 3) := by decide +kernel
theorem dd_Id_writeTo_40 : decode bb_Id_writeTo 40 = .ok (.return_, 1) := by decide +kernel
