theorem dd_Rs_init_0 : decode bb_Rs_init 0 = .ok (.aload_n 0, 1) := by decide +kernel
theorem dd_Rs_init_1 : decode bb_Rs_init 1 = .ok (.invokespecial 3, 3) := by decide +kernel
theorem dd_Rs_init_4 : decode bb_Rs_init 4 = .ok (.aload_n 0, 1) := by decide +kernel
theorem dd_Rs_init_5 : decode bb_Rs_init 5 = .ok (.new 9, 3) := by decide +kernel
theorem dd_Rs_init_8 : decode bb_Rs_init 8 = .ok (.dup, 1) := by decide +kernel
theorem dd_Rs_init_9 : decode bb_Rs_init 9 = .ok (.invokespecial 11, 3) := by decide +kernel
theorem dd_Rs_init_12 : decode bb_Rs_init 12 = .ok (.putfield 12, 3) := by decide +kernel
theorem dd_Rs_init_15 : decode bb_Rs_init 15 = .ok (.return_, 1) := by decide +kernel
theorem dd_Rs_hasCertificate_0 : decode bb_Rs_hasCertificate 0 = .ok (.iload_n 1, 1) := by decide +kernel
theorem dd_Rs_hasCertificate_1 : decode bb_Rs_hasCertificate 1 = .ok (.ifCond .lt (18), 3) := by decide +kernel
theorem dd_Rs_hasCertificate_4 : decode bb_Rs_hasCertificate 4 = .ok (.iload_n 1, 1) := by decide +kernel
theorem dd_Rs_hasCertificate_5 : decode bb_Rs_hasCertificate 5 = .ok (.aload_n 0, 1) := by decide +kernel
theorem dd_Rs_hasCertificate_6 : decode bb_Rs_hasCertificate 6 = .ok (.getfield 12, 3) := by decide +kernel
theorem dd_Rs_hasCertificate_9 : decode bb_Rs_hasCertificate 9 = .ok (.invokevirtual 26, 3) := by decide +kernel
theorem dd_Rs_hasCertificate_12 : decode bb_Rs_hasCertificate 12 = .ok (.if_icmp .ge (7), 3) := by decide +kernel
theorem dd_Rs_hasCertificate_15 : decode bb_Rs_hasCertificate 15 = .ok (.iconst 1, 1) := by decide +kernel
theorem dd_Rs_hasCertificate_16 : decode bb_Rs_hasCertificate 16 = .ok (.goto (4), 3) := by decide +kernel
theorem dd_Rs_hasCertificate_19 : decode bb_Rs_hasCertificate 19 = .ok (.iconst 0, 1) := by decide +kernel
theorem dd_Rs_hasCertificate_20 : decode bb_Rs_hasCertificate 20 = .ok (.ireturn, 1) := by decide +kernel
theorem dd_Rs_keyCount_0 : decode bb_Rs_keyCount 0 = .ok (.aload_n 0, 1) := by decide +kernel
theorem dd_Rs_keyCount_1 : decode bb_Rs_keyCount 1 = .ok (.getfield 68, 3) := by decide +kernel
theorem dd_Rs_keyCount_4 : decode bb_Rs_keyCount 4 = .ok (.aload_n 0, 1) := by decide +kernel
theorem dd_Rs_keyCount_5 : decode bb_Rs_keyCount 5 = .ok (.getfield 64, 3) := by decide +kernel
theorem dd_Rs_keyCount_8 : decode bb_Rs_keyCount 8 = .ok (.isub, 1) := by decide +kernel
theorem dd_Rs_keyCount_9 : decode bb_Rs_keyCount 9 = .ok (.ireturn, 1) := by decide +kernel

