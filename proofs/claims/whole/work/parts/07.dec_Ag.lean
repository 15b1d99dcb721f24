theorem dd_Ag_init_0 : decode bb_Ag_init 0 = .ok (.aload_n 0, 1) := by decide +kernel
theorem dd_Ag_init_1 : decode bb_Ag_init 1 = .ok (.invokespecial 1, 3) := by decide +kernel
theorem dd_Ag_init_4 : decode bb_Ag_init 4 = .ok (.aload_n 0, 1) := by decide +kernel
theorem dd_Ag_init_5 : decode bb_Ag_init 5 = .ok (.new 7, 3) := by decide +kernel
theorem dd_Ag_init_8 : decode bb_Ag_init 8 = .ok (.dup, 1) := by decide +kernel
theorem dd_Ag_init_9 : decode bb_Ag_init 9 = .ok (.invokespecial 9, 3) := by decide +kernel
theorem dd_Ag_init_12 : decode bb_Ag_init 12 = .ok (.putfield 10, 3) := by decide +kernel
theorem dd_Ag_init_15 : decode bb_Ag_init 15 = .ok (.aload_n 0, 1) := by decide +kernel
theorem dd_Ag_init_16 : decode bb_Ag_init 16 = .ok (.iload_n 1, 1) := by decide +kernel
theorem dd_Ag_init_17 : decode bb_Ag_init 17 = .ok (.putfield 16, 3) := by decide +kernel
theorem dd_Ag_init_20 : decode bb_Ag_init 20 = .ok (.aload_n 0, 1) := by decide +kernel
theorem dd_Ag_init_21 : decode bb_Ag_init 21 = .ok (.iload_n 2, 1) := by decide +kernel
theorem dd_Ag_init_22 : decode bb_Ag_init 22 = .ok (.putfield 20, 3) := by decide +kernel
theorem dd_Ag_init_25 : decode bb_Ag_init 25 = .ok (.return_, 1) := by decide +kernel
theorem dd_Ag_attestAgain_0 : decode bb_Ag_attestAgain 0 = .ok (.aload_n 0, 1) := by decide +kernel
theorem dd_Ag_attestAgain_1 : decode bb_Ag_attestAgain 1 = .ok (.iload_n 1, 1) := by decide +kernel
theorem dd_Ag_attestAgain_2 : decode bb_Ag_attestAgain 2 = .ok (.putfield 20, 3) := by decide +kernel
theorem dd_Ag_attestAgain_5 : decode bb_Ag_attestAgain 5 = .ok (.aload_n 0, 1) := by decide +kernel
theorem dd_Ag_attestAgain_6 : decode bb_Ag_attestAgain 6 = .ok (.getfield 10, 3) := by decide +kernel
theorem dd_Ag_attestAgain_9 : decode bb_Ag_attestAgain 9 = .ok (.invokevirtual 23, 3) := by decide +kernel
theorem dd_Ag_attestAgain_12 : decode bb_Ag_attestAgain 12 = .ok (.aload_n 0, 1) := by decide +kernel
theorem dd_Ag_attestAgain_13 : decode bb_Ag_attestAgain 13 = .ok (.iconst 0, 1) := by decide +kernel
theorem dd_Ag_attestAgain_14 : decode bb_Ag_attestAgain 14 = .ok (.iconst 0, 1) := by decide +kernel
theorem dd_Ag_attestAgain_15 : decode bb_Ag_attestAgain 15 = .ok (.iconst 0, 1) := by decide +kernel
theorem dd_Ag_attestAgain_16 : decode bb_Ag_attestAgain 16 = .ok (.invokevirtual 26, 3) := by decide +kernel
theorem dd_Ag_attestAgain_19 : decode bb_Ag_attestAgain 19 = .ok (.return_, 1) := by decide +kernel
theorem dd_Ag_keepBundles_0 : decode bb_Ag_keepBundles 0 = .ok (.aload_n 0, 1) := by decide +kernel
theorem dd_Ag_keepBundles_1 : decode bb_Ag_keepBundles 1 = .ok (.iload_n 1, 1) := by decide +kernel
theorem dd_Ag_keepBundles_2 : decode bb_Ag_keepBundles 2 = .ok (.putfield 44, 3) := by decide +kernel
theorem dd_Ag_keepBundles_5 : decode bb_Ag_keepBundles 5 = .ok (.aload_n 0, 1) := by decide +kernel
theorem dd_Ag_keepBundles_6 : decode bb_Ag_keepBundles 6 = .ok (.iload_n 2, 1) := by decide +kernel
theorem dd_Ag_keepBundles_7 : decode bb_Ag_keepBundles 7 = .ok (.putfield 47, 3) := by decide +kernel
theorem dd_Ag_keepBundles_10 : decode bb_Ag_keepBundles 10 = .ok (.aload_n 0, 1) := by decide +kernel
theorem dd_Ag_keepBundles_11 : decode bb_Ag_keepBundles 11 = .ok (.iload_n 3, 1) := by decide +kernel
theorem dd_Ag_keepBundles_12 : decode bb_Ag_keepBundles 12 = .ok (.putfield 50, 3) := by decide +kernel
theorem dd_Ag_keepBundles_15 : decode bb_Ag_keepBundles 15 = .ok (.return_, 1) := by decide +kernel
theorem dd_Ag_fresh_0 : decode bb_Ag_fresh 0 = .ok (.iconst 0, 1) := by decide +kernel
theorem dd_Ag_fresh_1 : decode bb_Ag_fresh 1 = .ok (.istore_n 3, 1) := by decide +kernel
theorem dd_Ag_fresh_2 : decode bb_Ag_fresh 2 = .ok (.iload_n 3, 1) := by decide +kernel
theorem dd_Ag_fresh_3 : decode bb_Ag_fresh 3 = .ok (.aload_n 0, 1) := by decide +kernel
theorem dd_Ag_fresh_4 : decode bb_Ag_fresh 4 = .ok (.getfield 10, 3) := by decide +kernel
theorem dd_Ag_fresh_7 : decode bb_Ag_fresh 7 = .ok (.invokevirtual 30, 3) := by decide +kernel
theorem dd_Ag_fresh_10 : decode bb_Ag_fresh 10 = .ok (.if_icmp .ge (57), 3) := by decide +kernel
theorem dd_Ag_fresh_13 : decode bb_Ag_fresh 13 = .ok (.aload_n 0, 1) := by decide +kernel
theorem dd_Ag_fresh_14 : decode bb_Ag_fresh 14 = .ok (.getfield 10, 3) := by decide +kernel
theorem dd_Ag_fresh_17 : decode bb_Ag_fresh 17 = .ok (.iload_n 3, 1) := by decide +kernel
theorem dd_Ag_fresh_18 : decode bb_Ag_fresh 18 = .ok (.invokevirtual 34, 3) := by decide +kernel
theorem dd_Ag_fresh_21 : decode bb_Ag_fresh 21 = .ok (.checkcast 38, 3) := by decide +kernel
theorem dd_Ag_fresh_24 : decode bb_Ag_fresh 24 = .ok (.astore 4, 2) := by decide +kernel
theorem dd_Ag_fresh_26 : decode bb_Ag_fresh 26 = .ok (.aload 4, 2) := by decide +kernel
theorem dd_Ag_fresh_28 : decode bb_Ag_fresh 28 = .ok (.getfield 53, 3) := by decide +kernel
theorem dd_Ag_fresh_31 : decode bb_Ag_fresh 31 = .ok (.getfield 57, 3) := by decide +kernel
theorem dd_Ag_fresh_34 : decode bb_Ag_fresh 34 = .ok (.aload_n 1, 1) := by decide +kernel
theorem dd_Ag_fresh_35 : decode bb_Ag_fresh 35 = .ok (.getfield 57, 3) := by decide +kernel
theorem dd_Ag_fresh_38 : decode bb_Ag_fresh 38 = .ok (.if_icmp .ne (23), 3) := by decide +kernel
theorem dd_Ag_fresh_41 : decode bb_Ag_fresh 41 = .ok (.iconst 2, 1) := by decide +kernel
theorem dd_Ag_fresh_42 : decode bb_Ag_fresh 42 = .ok (.iload_n 2, 1) := by decide +kernel
theorem dd_Ag_fresh_43 : decode bb_Ag_fresh 43 = .ok (.imul, 1) := by decide +kernel
theorem dd_Ag_fresh_44 : decode bb_Ag_fresh 44 = .ok (.aload 4, 2) := by decide +kernel
theorem dd_Ag_fresh_46 : decode bb_Ag_fresh 46 = .ok (.getfield 62, 3) := by decide +kernel
theorem dd_Ag_fresh_49 : decode bb_Ag_fresh 49 = .ok (.aload 4, 2) := by decide +kernel
theorem dd_Ag_fresh_51 : decode bb_Ag_fresh 51 = .ok (.getfield 65, 3) := by decide +kernel
theorem dd_Ag_fresh_54 : decode bb_Ag_fresh 54 = .ok (.iadd, 1) := by decide +kernel
theorem dd_Ag_fresh_55 : decode bb_Ag_fresh 55 = .ok (.if_icmp .ge (6), 3) := by decide +kernel
theorem dd_Ag_fresh_58 : decode bb_Ag_fresh 58 = .ok (.aload 4, 2) := by decide +kernel
theorem dd_Ag_fresh_60 : decode bb_Ag_fresh 60 = .ok (.areturn, 1) := by decide +kernel
theorem dd_Ag_fresh_61 : decode bb_Ag_fresh 61 = .ok (.iinc 3 (1), 3) := by decide +kernel
theorem dd_Ag_fresh_64 : decode bb_Ag_fresh 64 = .ok (.goto (-62), 3) := by decide +kernel
theorem dd_Ag_fresh_67 : decode bb_Ag_fresh 67 = .ok (.aconst_null, 1) := by decide +kernel
theorem dd_Ag_fresh_68 : decode bb_Ag_fresh 68 = .ok (.areturn, 1) := by decide +kernel
theorem dd_Ag_keepCertificates_0 : decode bb_Ag_keepCertificates 0 = .ok (.aload_n 0, 1) := by decide +kernel
theorem dd_Ag_keepCertificates_1 : decode bb_Ag_keepCertificates 1 = .ok (.getfield 10, 3) := by decide +kernel
theorem dd_Ag_keepCertificates_4 : decode bb_Ag_keepCertificates 4 = .ok (.invokevirtual 23, 3) := by decide +kernel
theorem dd_Ag_keepCertificates_7 : decode bb_Ag_keepCertificates 7 = .ok (.iconst 0, 1) := by decide +kernel
theorem dd_Ag_keepCertificates_8 : decode bb_Ag_keepCertificates 8 = .ok (.istore_n 2, 1) := by decide +kernel
theorem dd_Ag_keepCertificates_9 : decode bb_Ag_keepCertificates 9 = .ok (.iload_n 2, 1) := by decide +kernel
theorem dd_Ag_keepCertificates_10 : decode bb_Ag_keepCertificates 10 = .ok (.aload_n 1, 1) := by decide +kernel
theorem dd_Ag_keepCertificates_11 : decode bb_Ag_keepCertificates 11 = .ok (.invokevirtual 30, 3) := by decide +kernel
theorem dd_Ag_keepCertificates_14 : decode bb_Ag_keepCertificates 14 = .ok (.if_icmp .ge (25), 3) := by decide +kernel
theorem dd_Ag_keepCertificates_17 : decode bb_Ag_keepCertificates 17 = .ok (.aload_n 0, 1) := by decide +kernel
theorem dd_Ag_keepCertificates_18 : decode bb_Ag_keepCertificates 18 = .ok (.getfield 10, 3) := by decide +kernel
theorem dd_Ag_keepCertificates_21 : decode bb_Ag_keepCertificates 21 = .ok (.aload_n 1, 1) := by decide +kernel
theorem dd_Ag_keepCertificates_22 : decode bb_Ag_keepCertificates 22 = .ok (.iload_n 2, 1) := by decide +kernel
theorem dd_Ag_keepCertificates_23 : decode bb_Ag_keepCertificates 23 = .ok (.invokevirtual 34, 3) := by decide +kernel
theorem dd_Ag_keepCertificates_26 : decode bb_Ag_keepCertificates 26 = .ok (.checkcast 38, 3) := by decide +kernel
theorem dd_Ag_keepCertificates_29 : decode bb_Ag_keepCertificates 29 = .ok (.invokevirtual 40, 3) := by decide +kernel
theorem dd_Ag_keepCertificates_32 : decode bb_Ag_keepCertificates 32 = .ok (.pop, 1) := by decide +kernel
theorem dd_Ag_keepCertificates_33 : decode bb_Ag_keepCertificates 33 = .ok (.iinc 2 (1), 3) := by decide +kernel
theorem dd_Ag_keepCertificates_36 : decode bb_Ag_keepCertificates 36 = .ok (.goto (-27), 3) := by decide +kernel
theorem dd_Ag_keepCertificates_39 : decode bb_Ag_keepCertificates 39 = .ok (.return_, 1) := by decide +kernel
