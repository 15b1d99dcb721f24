theorem dd_Id_init_0 : decode bb_Id_init 0 = .ok (.aload_n 0, 1) := by decide +kernel
theorem dd_Id_init_1 : decode bb_Id_init 1 = .ok (.invokespecial 3, 3) := by decide +kernel
theorem dd_Id_init_4 : decode bb_Id_init 4 = .ok (.aload_n 0, 1) := by decide +kernel
theorem dd_Id_init_5 : decode bb_Id_init 5 = .ok (.bipush (12), 2) := by decide +kernel
theorem dd_Id_init_7 : decode bb_Id_init 7 = .ok (.bipush (40), 2) := by decide +kernel
theorem dd_Id_init_9 : decode bb_Id_init 9 = .ok (.multianewarray 11 2, 4) := by decide +kernel
theorem dd_Id_init_13 : decode bb_Id_init 13 = .ok (.putfield 13, 3) := by decide +kernel
theorem dd_Id_init_16 : decode bb_Id_init 16 = .ok (.aload_n 0, 1) := by decide +kernel
theorem dd_Id_init_17 : decode bb_Id_init 17 = .ok (.bipush (12), 2) := by decide +kernel
theorem dd_Id_init_19 : decode bb_Id_init 19 = .ok (.newarray .int, 2) := by decide +kernel
theorem dd_Id_init_21 : decode bb_Id_init 21 = .ok (.putfield 16, 3) := by decide +kernel
theorem dd_Id_init_24 : decode bb_Id_init 24 = .ok (.aload_n 0, 1) := by decide +kernel
theorem dd_Id_init_25 : decode bb_Id_init 25 = .ok (.bipush (12), 2) := by decide +kernel
theorem dd_Id_init_27 : decode bb_Id_init 27 = .ok (.newarray .int, 2) := by decide +kernel
theorem dd_Id_init_29 : decode bb_Id_init 29 = .ok (.putfield 20, 3) := by decide +kernel
theorem dd_Id_init_32 : decode bb_Id_init 32 = .ok (.return_, 1) := by decide +kernel
theorem dd_Id_firstError_0 : decode bb_Id_firstError 0 = .ok (.aload_n 0, 1) := by decide +kernel
theorem dd_Id_firstError_1 : decode bb_Id_firstError 1 = .ok (.iload_n 1, 1) := by decide +kernel
theorem dd_Id_firstError_2 : decode bb_Id_firstError 2 = .ok (.iload_n 2, 1) := by decide +kernel
theorem dd_Id_firstError_3 : decode bb_Id_firstError 3 = .ok (.invokestatic 23, 3) := by decide +kernel
theorem dd_Id_firstError_6 : decode bb_Id_firstError 6 = .ok (.istore_n 3, 1) := by decide +kernel
theorem dd_Id_firstError_7 : decode bb_Id_firstError 7 = .ok (.iload_n 3, 1) := by decide +kernel
theorem dd_Id_firstError_8 : decode bb_Id_firstError 8 = .ok (.iconst (-1), 1) := by decide +kernel
theorem dd_Id_firstError_9 : decode bb_Id_firstError 9 = .ok (.if_icmp .ne (41), 3) := by decide +kernel
theorem dd_Id_firstError_50 : decode bb_Id_firstError 50 = .ok (.iload_n 1, 1) := by decide +kernel
theorem dd_Id_firstError_51 : decode bb_Id_firstError 51 = .ok (.bipush (40), 2) := by decide +kernel
theorem dd_Id_firstError_53 : decode bb_Id_firstError 53 = .ok (.iadd, 1) := by decide +kernel
theorem dd_Id_firstError_54 : decode bb_Id_firstError 54 = .ok (.istore 4, 2) := by decide +kernel
theorem dd_Id_firstError_56 : decode bb_Id_firstError 56 = .ok (.iload_n 2, 1) := by decide +kernel
theorem dd_Id_firstError_57 : decode bb_Id_firstError 57 = .ok (.iload 4, 2) := by decide +kernel
theorem dd_Id_firstError_59 : decode bb_Id_firstError 59 = .ok (.if_icmp .le (18), 3) := by decide +kernel
theorem dd_Id_firstError_77 : decode bb_Id_firstError 77 = .ok (.iconst 0, 1) := by decide +kernel
theorem dd_Id_firstError_78 : decode bb_Id_firstError 78 = .ok (.istore 5, 2) := by decide +kernel
theorem dd_Id_firstError_80 : decode bb_Id_firstError 80 = .ok (.iload 5, 2) := by decide +kernel
theorem dd_Id_firstError_82 : decode bb_Id_firstError 82 = .ok (.ifCond .eq (8), 3) := by decide +kernel
theorem dd_Id_firstError_90 : decode bb_Id_firstError 90 = .ok (.iload_n 3, 1) := by decide +kernel
theorem dd_Id_firstError_91 : decode bb_Id_firstError 91 = .ok (.ireturn, 1) := by decide +kernel
theorem dd_Id_schemeError_0 : decode bb_Id_schemeError 0 = .ok (.iconst 0, 1) := by decide +kernel
theorem dd_Id_schemeError_1 : decode bb_Id_schemeError 1 = .ok (.istore_n 3, 1) := by decide +kernel
theorem dd_Id_schemeError_2 : decode bb_Id_schemeError 2 = .ok (.iload_n 3, 1) := by decide +kernel
theorem dd_Id_schemeError_3 : decode bb_Id_schemeError 3 = .ok (.ldc 27, 2) := by decide +kernel
theorem dd_Id_schemeError_5 : decode bb_Id_schemeError 5 = .ok (.invokevirtual 29, 3) := by decide +kernel
theorem dd_Id_schemeError_8 : decode bb_Id_schemeError 8 = .ok (.if_icmp .ge (36), 3) := by decide +kernel
theorem dd_Id_schemeError_11 : decode bb_Id_schemeError 11 = .ok (.iload_n 1, 1) := by decide +kernel
theorem dd_Id_schemeError_12 : decode bb_Id_schemeError 12 = .ok (.iload_n 3, 1) := by decide +kernel
theorem dd_Id_schemeError_13 : decode bb_Id_schemeError 13 = .ok (.iadd, 1) := by decide +kernel
theorem dd_Id_schemeError_14 : decode bb_Id_schemeError 14 = .ok (.iload_n 2, 1) := by decide +kernel
theorem dd_Id_schemeError_15 : decode bb_Id_schemeError 15 = .ok (.if_icmp .ge (19), 3) := by decide +kernel
theorem dd_Id_schemeError_34 : decode bb_Id_schemeError 34 = .ok (.iload_n 1, 1) := by decide +kernel
theorem dd_Id_schemeError_35 : decode bb_Id_schemeError 35 = .ok (.iload_n 3, 1) := by decide +kernel
theorem dd_Id_schemeError_36 : decode bb_Id_schemeError 36 = .ok (.iadd, 1) := by decide +kernel
theorem dd_Id_schemeError_37 : decode bb_Id_schemeError 37 = .ok (.ireturn, 1) := by decide +kernel
theorem dd_Id_isThere_0 : decode bb_Id_isThere 0 = .ok (.iload_n 1, 1) := by decide +kernel
theorem dd_Id_isThere_1 : decode bb_Id_isThere 1 = .ok (.ifCond .lt (15), 3) := by decide +kernel
theorem dd_Id_isThere_4 : decode bb_Id_isThere 4 = .ok (.iload_n 1, 1) := by decide +kernel
theorem dd_Id_isThere_5 : decode bb_Id_isThere 5 = .ok (.aload_n 0, 1) := by decide +kernel
theorem dd_Id_isThere_6 : decode bb_Id_isThere 6 = .ok (.getfield 65, 3) := by decide +kernel
theorem dd_Id_isThere_9 : decode bb_Id_isThere 9 = .ok (.if_icmp .ge (7), 3) := by decide +kernel
theorem dd_Id_isThere_12 : decode bb_Id_isThere 12 = .ok (.iconst 1, 1) := by decide +kernel
theorem dd_Id_isThere_13 : decode bb_Id_isThere 13 = .ok (.goto (4), 3) := by decide +kernel
theorem dd_Id_isThere_16 : decode bb_Id_isThere 16 = .ok (.iconst 0, 1) := by decide +kernel
theorem dd_Id_isThere_17 : decode bb_Id_isThere 17 = .ok (.ireturn, 1) := by decide +kernel
