theorem dd_Ob_init_0 : decode bb_Ob_init 0 = .ok (.return_, 1) := by decide +kernel
theorem dd_AL_init_0 : decode bb_AL_init 0 = .ok (.aload_n 0, 1) := by decide +kernel
theorem dd_AL_init_1 : decode bb_AL_init 1 = .ok (.invokespecial 1, 3) := by decide +kernel
theorem dd_AL_init_4 : decode bb_AL_init 4 = .ok (.aload_n 0, 1) := by decide +kernel
theorem dd_AL_init_5 : decode bb_AL_init 5 = .ok (.getstatic 39, 3) := by decide +kernel
theorem dd_AL_init_8 : decode bb_AL_init 8 = .ok (.putfield 9, 3) := by decide +kernel
theorem dd_AL_init_11 : decode bb_AL_init 11 = .ok (.return_, 1) := by decide +kernel
theorem dd_Ab_init_0 : decode bb_Ab_init 0 = .ok (.aload_n 0, 1) := by decide +kernel
theorem dd_Ab_init_1 : decode bb_Ab_init 1 = .ok (.invokespecial 1, 3) := by decide +kernel
theorem dd_Ab_init_4 : decode bb_Ab_init 4 = .ok (.aload_n 0, 1) := by decide +kernel
theorem dd_Ab_init_5 : decode bb_Ab_init 5 = .ok (.iconst 0, 1) := by decide +kernel
theorem dd_Ab_init_6 : decode bb_Ab_init 6 = .ok (.putfield 7, 3) := by decide +kernel
theorem dd_Ab_init_9 : decode bb_Ab_init 9 = .ok (.return_, 1) := by decide +kernel
theorem dd_Ac_init_0 : decode bb_Ac_init 0 = .ok (.aload_n 0, 1) := by decide +kernel
theorem dd_Ac_init_1 : decode bb_Ac_init 1 = .ok (.invokespecial 1, 3) := by decide +kernel
theorem dd_Ac_init_4 : decode bb_Ac_init 4 = .ok (.return_, 1) := by decide +kernel
theorem dd_Ma_min_0 : decode bb_Ma_min 0 = .ok (.iload_n 0, 1) := by decide +kernel
theorem dd_Ma_min_1 : decode bb_Ma_min 1 = .ok (.iload_n 1, 1) := by decide +kernel
theorem dd_Ma_min_2 : decode bb_Ma_min 2 = .ok (.if_icmp .gt (7), 3) := by decide +kernel
theorem dd_Ma_min_5 : decode bb_Ma_min 5 = .ok (.iload_n 0, 1) := by decide +kernel
theorem dd_Ma_min_6 : decode bb_Ma_min 6 = .ok (.goto (4), 3) := by decide +kernel
theorem dd_Ma_min_9 : decode bb_Ma_min 9 = .ok (.iload_n 1, 1) := by decide +kernel
theorem dd_Ma_min_10 : decode bb_Ma_min 10 = .ok (.ireturn, 1) := by decide +kernel
theorem dd_Ma_max_0 : decode bb_Ma_max 0 = .ok (.iload_n 0, 1) := by decide +kernel
theorem dd_Ma_max_1 : decode bb_Ma_max 1 = .ok (.iload_n 1, 1) := by decide +kernel
theorem dd_Ma_max_2 : decode bb_Ma_max 2 = .ok (.if_icmp .lt (7), 3) := by decide +kernel
theorem dd_Ma_max_5 : decode bb_Ma_max 5 = .ok (.iload_n 0, 1) := by decide +kernel
theorem dd_Ma_max_6 : decode bb_Ma_max 6 = .ok (.goto (4), 3) := by decide +kernel
theorem dd_Ma_max_9 : decode bb_Ma_max 9 = .ok (.iload_n 1, 1) := by decide +kernel
theorem dd_Ma_max_10 : decode bb_Ma_max 10 = .ok (.ireturn, 1) := by decide +kernel
theorem dd_St_length_0 : decode bb_St_length 0 = .ok (.aload_n 0, 1) := by decide +kernel
theorem dd_St_length_1 : decode bb_St_length 1 = .ok (.getfield 9, 3) := by decide +kernel
theorem dd_St_length_4 : decode bb_St_length 4 = .ok (.arraylength, 1) := by decide +kernel
theorem dd_St_length_5 : decode bb_St_length 5 = .ok (.aload_n 0, 1) := by decide +kernel
theorem dd_St_length_6 : decode bb_St_length 6 = .ok (.invokevirtual 335, 3) := by decide +kernel
theorem dd_St_length_9 : decode bb_St_length 9 = .ok (.ishr, 1) := by decide +kernel
theorem dd_St_length_10 : decode bb_St_length 10 = .ok (.ireturn, 1) := by decide +kernel
theorem dd_St_coder_0 : decode bb_St_coder 0 = .ok (.getstatic 38, 3) := by decide +kernel
theorem dd_St_coder_3 : decode bb_St_coder 3 = .ok (.ifCond .eq (10), 3) := by decide +kernel
theorem dd_St_coder_6 : decode bb_St_coder 6 = .ok (.aload_n 0, 1) := by decide +kernel
theorem dd_St_coder_7 : decode bb_St_coder 7 = .ok (.getfield 15, 3) := by decide +kernel
theorem dd_St_coder_10 : decode bb_St_coder 10 = .ok (.goto (4), 3) := by decide +kernel
theorem dd_St_coder_13 : decode bb_St_coder 13 = .ok (.iconst 1, 1) := by decide +kernel
theorem dd_St_coder_14 : decode bb_St_coder 14 = .ok (.ireturn, 1) := by decide +kernel
theorem dd_St_charAt_0 : decode bb_St_charAt 0 = .ok (.aload_n 0, 1) := by decide +kernel
theorem dd_St_charAt_1 : decode bb_St_charAt 1 = .ok (.invokevirtual 492, 3) := by decide +kernel
theorem dd_St_charAt_4 : decode bb_St_charAt 4 = .ok (.ifCond .eq (12), 3) := by decide +kernel
theorem dd_St_charAt_7 : decode bb_St_charAt 7 = .ok (.aload_n 0, 1) := by decide +kernel
theorem dd_St_charAt_8 : decode bb_St_charAt 8 = .ok (.getfield 9, 3) := by decide +kernel
theorem dd_St_charAt_11 : decode bb_St_charAt 11 = .ok (.iload_n 1, 1) := by decide +kernel
theorem dd_St_charAt_12 : decode bb_St_charAt 12 = .ok (.invokestatic 495, 3) := by decide +kernel
theorem dd_St_charAt_15 : decode bb_St_charAt 15 = .ok (.ireturn, 1) := by decide +kernel
theorem dd_St_charAt_16 : decode bb_St_charAt 16 = .ok (.aload_n 0, 1) := by decide +kernel
theorem dd_St_charAt_17 : decode bb_St_charAt 17 = .ok (.getfield 9, 3) := by decide +kernel
theorem dd_St_charAt_20 : decode bb_St_charAt 20 = .ok (.iload_n 1, 1) := by decide +kernel
theorem dd_St_charAt_21 : decode bb_St_charAt 21 = .ok (.invokestatic 498, 3) := by decide +kernel
theorem dd_St_charAt_24 : decode bb_St_charAt 24 = .ok (.ireturn, 1) := by decide +kernel
theorem dd_St_isLatin1_0 : decode bb_St_isLatin1 0 = .ok (.getstatic 38, 3) := by decide +kernel
theorem dd_St_isLatin1_3 : decode bb_St_isLatin1 3 = .ok (.ifCond .eq (14), 3) := by decide +kernel
theorem dd_St_isLatin1_6 : decode bb_St_isLatin1 6 = .ok (.aload_n 0, 1) := by decide +kernel
theorem dd_St_isLatin1_7 : decode bb_St_isLatin1 7 = .ok (.getfield 15, 3) := by decide +kernel
theorem dd_St_isLatin1_10 : decode bb_St_isLatin1 10 = .ok (.ifCond .ne (7), 3) := by decide +kernel
theorem dd_St_isLatin1_13 : decode bb_St_isLatin1 13 = .ok (.iconst 1, 1) := by decide +kernel
theorem dd_St_isLatin1_14 : decode bb_St_isLatin1 14 = .ok (.goto (4), 3) := by decide +kernel
theorem dd_St_isLatin1_17 : decode bb_St_isLatin1 17 = .ok (.iconst 0, 1) := by decide +kernel
theorem dd_St_isLatin1_18 : decode bb_St_isLatin1 18 = .ok (.ireturn, 1) := by decide +kernel
theorem dd_SL_charAt_0 : decode bb_SL_charAt 0 = .ok (.iload_n 1, 1) := by decide +kernel
theorem dd_SL_charAt_1 : decode bb_SL_charAt 1 = .ok (.aload_n 0, 1) := by decide +kernel
theorem dd_SL_charAt_2 : decode bb_SL_charAt 2 = .ok (.arraylength, 1) := by decide +kernel
theorem dd_SL_charAt_3 : decode bb_SL_charAt 3 = .ok (.invokestatic 9, 3) := by decide +kernel
theorem dd_SL_charAt_6 : decode bb_SL_charAt 6 = .ok (.aload_n 0, 1) := by decide +kernel
theorem dd_SL_charAt_7 : decode bb_SL_charAt 7 = .ok (.iload_n 1, 1) := by decide +kernel
theorem dd_SL_charAt_8 : decode bb_SL_charAt 8 = .ok (.baload, 1) := by decide +kernel
theorem dd_SL_charAt_9 : decode bb_SL_charAt 9 = .ok (.sipush (255), 3) := by decide +kernel
theorem dd_SL_charAt_12 : decode bb_SL_charAt 12 = .ok (.iand, 1) := by decide +kernel
theorem dd_SL_charAt_13 : decode bb_SL_charAt 13 = .ok (.i2c, 1) := by decide +kernel
theorem dd_SL_charAt_14 : decode bb_SL_charAt 14 = .ok (.ireturn, 1) := by decide +kernel
theorem dd_St_checkIndex_0 : decode bb_St_checkIndex 0 = .ok (.iload_n 0, 1) := by decide +kernel
theorem dd_St_checkIndex_1 : decode bb_St_checkIndex 1 = .ok (.iload_n 1, 1) := by decide +kernel
theorem dd_St_checkIndex_2 : decode bb_St_checkIndex 2 = .ok (.getstatic 1053, 3) := by decide +kernel
theorem dd_St_checkIndex_5 : decode bb_St_checkIndex 5 = .ok (.invokestatic 1059, 3) := by decide +kernel
theorem dd_St_checkIndex_8 : decode bb_St_checkIndex 8 = .ok (.pop, 1) := by decide +kernel
theorem dd_St_checkIndex_9 : decode bb_St_checkIndex 9 = .ok (.return_, 1) := by decide +kernel
theorem dd_Pr_checkIndex_0 : decode bb_Pr_checkIndex 0 = .ok (.iload_n 0, 1) := by decide +kernel
theorem dd_Pr_checkIndex_1 : decode bb_Pr_checkIndex 1 = .ok (.ifCond .lt (8), 3) := by decide +kernel
theorem dd_Pr_checkIndex_4 : decode bb_Pr_checkIndex 4 = .ok (.iload_n 0, 1) := by decide +kernel
theorem dd_Pr_checkIndex_5 : decode bb_Pr_checkIndex 5 = .ok (.iload_n 1, 1) := by decide +kernel
theorem dd_Pr_checkIndex_6 : decode bb_Pr_checkIndex 6 = .ok (.if_icmp .lt (10), 3) := by decide +kernel
theorem dd_Pr_checkIndex_9 : decode bb_Pr_checkIndex 9 = .ok (.aload_n 2, 1) := by decide +kernel
theorem dd_Pr_checkIndex_10 : decode bb_Pr_checkIndex 10 = .ok (.iload_n 0, 1) := by decide +kernel
theorem dd_Pr_checkIndex_11 : decode bb_Pr_checkIndex 11 = .ok (.iload_n 1, 1) := by decide +kernel
theorem dd_Pr_checkIndex_12 : decode bb_Pr_checkIndex 12 = .ok (.invokestatic 95, 3) := by decide +kernel
theorem dd_Pr_checkIndex_15 : decode bb_Pr_checkIndex 15 = .ok (.athrow, 1) := by decide +kernel
theorem dd_Pr_checkIndex_16 : decode bb_Pr_checkIndex 16 = .ok (.iload_n 0, 1) := by decide +kernel
theorem dd_Pr_checkIndex_17 : decode bb_Pr_checkIndex 17 = .ok (.ireturn, 1) := by decide +kernel
theorem dd_AL_size_0 : decode bb_AL_size 0 = .ok (.aload_n 0, 1) := by decide +kernel
theorem dd_AL_size_1 : decode bb_AL_size 1 = .ok (.getfield 48, 3) := by decide +kernel
theorem dd_AL_size_4 : decode bb_AL_size 4 = .ok (.ireturn, 1) := by decide +kernel
theorem dd_AL_add_0 : decode bb_AL_add 0 = .ok (.aload_n 0, 1) := by decide +kernel
theorem dd_AL_add_1 : decode bb_AL_add 1 = .ok (.dup, 1) := by decide +kernel
theorem dd_AL_add_2 : decode bb_AL_add 2 = .ok (.getfield 63, 3) := by decide +kernel
theorem dd_AL_add_5 : decode bb_AL_add 5 = .ok (.iconst 1, 1) := by decide +kernel
theorem dd_AL_add_6 : decode bb_AL_add 6 = .ok (.iadd, 1) := by decide +kernel
theorem dd_AL_add_7 : decode bb_AL_add 7 = .ok (.putfield 63, 3) := by decide +kernel
theorem dd_AL_add_10 : decode bb_AL_add 10 = .ok (.aload_n 0, 1) := by decide +kernel
theorem dd_AL_add_11 : decode bb_AL_add 11 = .ok (.aload_n 1, 1) := by decide +kernel
theorem dd_AL_add_12 : decode bb_AL_add 12 = .ok (.aload_n 0, 1) := by decide +kernel
theorem dd_AL_add_13 : decode bb_AL_add 13 = .ok (.getfield 9, 3) := by decide +kernel
theorem dd_AL_add_16 : decode bb_AL_add 16 = .ok (.aload_n 0, 1) := by decide +kernel
theorem dd_AL_add_17 : decode bb_AL_add 17 = .ok (.getfield 48, 3) := by decide +kernel
theorem dd_AL_add_20 : decode bb_AL_add 20 = .ok (.invokevirtual 131, 3) := by decide +kernel
theorem dd_AL_add_23 : decode bb_AL_add 23 = .ok (.iconst 1, 1) := by decide +kernel
theorem dd_AL_add_24 : decode bb_AL_add 24 = .ok (.ireturn, 1) := by decide +kernel
theorem dd_AL_add2_0 : decode bb_AL_add2 0 = .ok (.iload_n 3, 1) := by decide +kernel
theorem dd_AL_add2_1 : decode bb_AL_add2 1 = .ok (.aload_n 2, 1) := by decide +kernel
theorem dd_AL_add2_2 : decode bb_AL_add2 2 = .ok (.arraylength, 1) := by decide +kernel
theorem dd_AL_add2_3 : decode bb_AL_add2 3 = .ok (.if_icmp .ne (8), 3) := by decide +kernel
theorem dd_AL_add2_6 : decode bb_AL_add2 6 = .ok (.aload_n 0, 1) := by decide +kernel
theorem dd_AL_add2_7 : decode bb_AL_add2 7 = .ok (.invokevirtual 129, 3) := by decide +kernel
theorem dd_AL_add2_10 : decode bb_AL_add2 10 = .ok (.astore_n 2, 1) := by decide +kernel
theorem dd_AL_add2_11 : decode bb_AL_add2 11 = .ok (.aload_n 2, 1) := by decide +kernel
theorem dd_AL_add2_12 : decode bb_AL_add2 12 = .ok (.iload_n 3, 1) := by decide +kernel
theorem dd_AL_add2_13 : decode bb_AL_add2 13 = .ok (.aload_n 1, 1) := by decide +kernel
theorem dd_AL_add2_14 : decode bb_AL_add2 14 = .ok (.aastore, 1) := by decide +kernel
theorem dd_AL_add2_15 : decode bb_AL_add2 15 = .ok (.aload_n 0, 1) := by decide +kernel
theorem dd_AL_add2_16 : decode bb_AL_add2 16 = .ok (.iload_n 3, 1) := by decide +kernel
theorem dd_AL_add2_17 : decode bb_AL_add2 17 = .ok (.iconst 1, 1) := by decide +kernel
theorem dd_AL_add2_18 : decode bb_AL_add2 18 = .ok (.iadd, 1) := by decide +kernel
theorem dd_AL_add2_19 : decode bb_AL_add2 19 = .ok (.putfield 48, 3) := by decide +kernel
theorem dd_AL_add2_22 : decode bb_AL_add2 22 = .ok (.return_, 1) := by decide +kernel
theorem dd_AL_grow_0 : decode bb_AL_grow 0 = .ok (.aload_n 0, 1) := by decide +kernel
theorem dd_AL_grow_1 : decode bb_AL_grow 1 = .ok (.aload_n 0, 1) := by decide +kernel
theorem dd_AL_grow_2 : decode bb_AL_grow 2 = .ok (.getfield 48, 3) := by decide +kernel
theorem dd_AL_grow_5 : decode bb_AL_grow 5 = .ok (.iconst 1, 1) := by decide +kernel
theorem dd_AL_grow_6 : decode bb_AL_grow 6 = .ok (.iadd, 1) := by decide +kernel
theorem dd_AL_grow_7 : decode bb_AL_grow 7 = .ok (.invokevirtual 69, 3) := by decide +kernel
theorem dd_AL_grow_10 : decode bb_AL_grow 10 = .ok (.areturn, 1) := by decide +kernel
theorem dd_AL_grow2_0 : decode bb_AL_grow2 0 = .ok (.aload_n 0, 1) := by decide +kernel
theorem dd_AL_grow2_1 : decode bb_AL_grow2 1 = .ok (.getfield 9, 3) := by decide +kernel
theorem dd_AL_grow2_4 : decode bb_AL_grow2 4 = .ok (.arraylength, 1) := by decide +kernel
theorem dd_AL_grow2_5 : decode bb_AL_grow2 5 = .ok (.istore_n 2, 1) := by decide +kernel
theorem dd_AL_grow2_6 : decode bb_AL_grow2 6 = .ok (.iload_n 2, 1) := by decide +kernel
theorem dd_AL_grow2_7 : decode bb_AL_grow2 7 = .ok (.ifCond .gt (13), 3) := by decide +kernel
theorem dd_AL_grow2_10 : decode bb_AL_grow2 10 = .ok (.aload_n 0, 1) := by decide +kernel
theorem dd_AL_grow2_11 : decode bb_AL_grow2 11 = .ok (.getfield 9, 3) := by decide +kernel
theorem dd_AL_grow2_14 : decode bb_AL_grow2 14 = .ok (.getstatic 39, 3) := by decide +kernel
theorem dd_AL_grow2_17 : decode bb_AL_grow2 17 = .ok (.if_acmp .eq (28), 3) := by decide +kernel
theorem dd_AL_grow2_20 : decode bb_AL_grow2 20 = .ok (.iload_n 2, 1) := by decide +kernel
theorem dd_AL_grow2_21 : decode bb_AL_grow2 21 = .ok (.iload_n 1, 1) := by decide +kernel
theorem dd_AL_grow2_22 : decode bb_AL_grow2 22 = .ok (.iload_n 2, 1) := by decide +kernel
theorem dd_AL_grow2_23 : decode bb_AL_grow2 23 = .ok (.isub, 1) := by decide +kernel
theorem dd_AL_grow2_24 : decode bb_AL_grow2 24 = .ok (.iload_n 2, 1) := by decide +kernel
theorem dd_AL_grow2_25 : decode bb_AL_grow2 25 = .ok (.iconst 1, 1) := by decide +kernel
theorem dd_AL_grow2_26 : decode bb_AL_grow2 26 = .ok (.ishr, 1) := by decide +kernel
theorem dd_AL_grow2_27 : decode bb_AL_grow2 27 = .ok (.invokestatic 73, 3) := by decide +kernel
theorem dd_AL_grow2_30 : decode bb_AL_grow2 30 = .ok (.istore_n 3, 1) := by decide +kernel
theorem dd_AL_grow2_31 : decode bb_AL_grow2 31 = .ok (.aload_n 0, 1) := by decide +kernel
theorem dd_AL_grow2_32 : decode bb_AL_grow2 32 = .ok (.aload_n 0, 1) := by decide +kernel
theorem dd_AL_grow2_33 : decode bb_AL_grow2 33 = .ok (.getfield 9, 3) := by decide +kernel
theorem dd_AL_grow2_36 : decode bb_AL_grow2 36 = .ok (.iload_n 3, 1) := by decide +kernel
theorem dd_AL_grow2_37 : decode bb_AL_grow2 37 = .ok (.invokestatic 66, 3) := by decide +kernel
theorem dd_AL_grow2_40 : decode bb_AL_grow2 40 = .ok (.dup_x1, 1) := by decide +kernel
theorem dd_AL_grow2_41 : decode bb_AL_grow2 41 = .ok (.putfield 9, 3) := by decide +kernel
theorem dd_AL_grow2_44 : decode bb_AL_grow2 44 = .ok (.areturn, 1) := by decide +kernel
theorem dd_AL_grow2_45 : decode bb_AL_grow2 45 = .ok (.aload_n 0, 1) := by decide +kernel
theorem dd_AL_grow2_46 : decode bb_AL_grow2 46 = .ok (.bipush (10), 2) := by decide +kernel
theorem dd_AL_grow2_48 : decode bb_AL_grow2 48 = .ok (.iload_n 1, 1) := by decide +kernel
theorem dd_AL_grow2_49 : decode bb_AL_grow2 49 = .ok (.invokestatic 79, 3) := by decide +kernel
theorem dd_AL_grow2_52 : decode bb_AL_grow2 52 = .ok (.anewarray 7, 3) := by decide +kernel
theorem dd_AL_grow2_55 : decode bb_AL_grow2 55 = .ok (.dup_x1, 1) := by decide +kernel
theorem dd_AL_grow2_56 : decode bb_AL_grow2 56 = .ok (.putfield 9, 3) := by decide +kernel
theorem dd_AL_grow2_59 : decode bb_AL_grow2 59 = .ok (.areturn, 1) := by decide +kernel
theorem dd_AS_newLength_0 : decode bb_AS_newLength 0 = .ok (.iload_n 0, 1) := by decide +kernel
theorem dd_AS_newLength_1 : decode bb_AS_newLength 1 = .ok (.iload_n 1, 1) := by decide +kernel
theorem dd_AS_newLength_2 : decode bb_AS_newLength 2 = .ok (.iload_n 2, 1) := by decide +kernel
theorem dd_AS_newLength_3 : decode bb_AS_newLength 3 = .ok (.invokestatic 194, 3) := by decide +kernel
theorem dd_AS_newLength_6 : decode bb_AS_newLength 6 = .ok (.iadd, 1) := by decide +kernel
theorem dd_AS_newLength_7 : decode bb_AS_newLength 7 = .ok (.istore_n 3, 1) := by decide +kernel
theorem dd_AS_newLength_8 : decode bb_AS_newLength 8 = .ok (.iconst 0, 1) := by decide +kernel
theorem dd_AS_newLength_9 : decode bb_AS_newLength 9 = .ok (.iload_n 3, 1) := by decide +kernel
theorem dd_AS_newLength_10 : decode bb_AS_newLength 10 = .ok (.if_icmp .ge (11), 3) := by decide +kernel
theorem dd_AS_newLength_13 : decode bb_AS_newLength 13 = .ok (.iload_n 3, 1) := by decide +kernel
theorem dd_AS_newLength_14 : decode bb_AS_newLength 14 = .ok (.ldc 200, 2) := by decide +kernel
theorem dd_AS_newLength_16 : decode bb_AS_newLength 16 = .ok (.if_icmp .gt (5), 3) := by decide +kernel
theorem dd_AS_newLength_19 : decode bb_AS_newLength 19 = .ok (.iload_n 3, 1) := by decide +kernel
theorem dd_AS_newLength_20 : decode bb_AS_newLength 20 = .ok (.ireturn, 1) := by decide +kernel
theorem dd_AS_newLength_21 : decode bb_AS_newLength 21 = .ok (.iload_n 0, 1) := by decide +kernel
theorem dd_AS_newLength_22 : decode bb_AS_newLength 22 = .ok (.iload_n 1, 1) := by decide +kernel
theorem dd_AS_newLength_23 : decode bb_AS_newLength 23 = .ok (.invokestatic 201, 3) := by decide +kernel
theorem dd_AS_newLength_26 : decode bb_AS_newLength 26 = .ok (.ireturn, 1) := by decide +kernel
theorem dd_AS_hugeLength_0 : decode bb_AS_hugeLength 0 = .ok (.iload_n 0, 1) := by decide +kernel
theorem dd_AS_hugeLength_1 : decode bb_AS_hugeLength 1 = .ok (.iload_n 1, 1) := by decide +kernel
theorem dd_AS_hugeLength_2 : decode bb_AS_hugeLength 2 = .ok (.iadd, 1) := by decide +kernel
theorem dd_AS_hugeLength_3 : decode bb_AS_hugeLength 3 = .ok (.istore_n 2, 1) := by decide +kernel
theorem dd_AS_hugeLength_4 : decode bb_AS_hugeLength 4 = .ok (.iload_n 2, 1) := by decide +kernel
theorem dd_AS_hugeLength_5 : decode bb_AS_hugeLength 5 = .ok (.ifCond .ge (44), 3) := by decide +kernel
theorem dd_AS_hugeLength_8 : decode bb_AS_hugeLength 8 = .ok (.new 204, 3) := by decide +kernel
theorem dd_AS_hugeLength_11 : decode bb_AS_hugeLength 11 = .ok (.dup, 1) := by decide +kernel
theorem dd_AS_hugeLength_12 : decode bb_AS_hugeLength 12 = .ok (.new 89, 3) := by decide +kernel
theorem dd_AS_hugeLength_15 : decode bb_AS_hugeLength 15 = .ok (.dup, 1) := by decide +kernel
theorem dd_AS_hugeLength_16 : decode bb_AS_hugeLength 16 = .ok (.invokespecial 91, 3) := by decide +kernel
theorem dd_AS_hugeLength_19 : decode bb_AS_hugeLength 19 = .ok (.ldc 206, 2) := by decide +kernel
theorem dd_AS_hugeLength_21 : decode bb_AS_hugeLength 21 = .ok (.invokevirtual 94, 3) := by decide +kernel
theorem dd_AS_hugeLength_24 : decode bb_AS_hugeLength 24 = .ok (.iload_n 0, 1) := by decide +kernel
theorem dd_AS_hugeLength_25 : decode bb_AS_hugeLength 25 = .ok (.invokevirtual 98, 3) := by decide +kernel
theorem dd_AS_hugeLength_28 : decode bb_AS_hugeLength 28 = .ok (.ldc 208, 2) := by decide +kernel
theorem dd_AS_hugeLength_30 : decode bb_AS_hugeLength 30 = .ok (.invokevirtual 94, 3) := by decide +kernel
theorem dd_AS_hugeLength_33 : decode bb_AS_hugeLength 33 = .ok (.iload_n 1, 1) := by decide +kernel
theorem dd_AS_hugeLength_34 : decode bb_AS_hugeLength 34 = .ok (.invokevirtual 98, 3) := by decide +kernel
theorem dd_AS_hugeLength_37 : decode bb_AS_hugeLength 37 = .ok (.ldc 210, 2) := by decide +kernel
theorem dd_AS_hugeLength_39 : decode bb_AS_hugeLength 39 = .ok (.invokevirtual 94, 3) := by decide +kernel
theorem dd_AS_hugeLength_42 : decode bb_AS_hugeLength 42 = .ok (.invokevirtual 101, 3) := by decide +kernel
theorem dd_AS_hugeLength_45 : decode bb_AS_hugeLength 45 = .ok (.invokespecial 212, 3) := by decide +kernel
theorem dd_AS_hugeLength_48 : decode bb_AS_hugeLength 48 = .ok (.athrow, 1) := by decide +kernel
theorem dd_AS_hugeLength_49 : decode bb_AS_hugeLength 49 = .ok (.iload_n 2, 1) := by decide +kernel
theorem dd_AS_hugeLength_50 : decode bb_AS_hugeLength 50 = .ok (.ldc 200, 2) := by decide +kernel
theorem dd_AS_hugeLength_52 : decode bb_AS_hugeLength 52 = .ok (.if_icmp .gt (6), 3) := by decide +kernel
theorem dd_AS_hugeLength_55 : decode bb_AS_hugeLength 55 = .ok (.ldc 200, 2) := by decide +kernel
theorem dd_AS_hugeLength_57 : decode bb_AS_hugeLength 57 = .ok (.ireturn, 1) := by decide +kernel
theorem dd_AS_hugeLength_58 : decode bb_AS_hugeLength 58 = .ok (.iload_n 2, 1) := by decide +kernel
theorem dd_AS_hugeLength_59 : decode bb_AS_hugeLength 59 = .ok (.ireturn, 1) := by decide +kernel
theorem dd_Ar_copyOf_0 : decode bb_Ar_copyOf 0 = .ok (.aload_n 0, 1) := by decide +kernel
theorem dd_Ar_copyOf_1 : decode bb_Ar_copyOf 1 = .ok (.iload_n 1, 1) := by decide +kernel
theorem dd_Ar_copyOf_2 : decode bb_Ar_copyOf 2 = .ok (.aload_n 0, 1) := by decide +kernel
theorem dd_Ar_copyOf_3 : decode bb_Ar_copyOf 3 = .ok (.invokevirtual 86, 3) := by decide +kernel
theorem dd_Ar_copyOf_6 : decode bb_Ar_copyOf 6 = .ok (.invokestatic 300, 3) := by decide +kernel
theorem dd_Ar_copyOf_9 : decode bb_Ar_copyOf 9 = .ok (.areturn, 1) := by decide +kernel
theorem dd_Ar_copyOf2_0 : decode bb_Ar_copyOf2 0 = .ok (.aload_n 2, 1) := by decide +kernel
theorem dd_Ar_copyOf2_1 : decode bb_Ar_copyOf2 1 = .ok (.ldc 110, 2) := by decide +kernel
theorem dd_Ar_copyOf2_3 : decode bb_Ar_copyOf2 3 = .ok (.if_acmp .ne (10), 3) := by decide +kernel
theorem dd_Ar_copyOf2_6 : decode bb_Ar_copyOf2 6 = .ok (.iload_n 1, 1) := by decide +kernel
theorem dd_Ar_copyOf2_7 : decode bb_Ar_copyOf2 7 = .ok (.anewarray 2, 3) := by decide +kernel
theorem dd_Ar_copyOf2_10 : decode bb_Ar_copyOf2 10 = .ok (.goto (14), 3) := by decide +kernel
theorem dd_Ar_copyOf2_13 : decode bb_Ar_copyOf2 13 = .ok (.aload_n 2, 1) := by decide +kernel
theorem dd_Ar_copyOf2_14 : decode bb_Ar_copyOf2 14 = .ok (.invokevirtual 90, 3) := by decide +kernel
theorem dd_Ar_copyOf2_17 : decode bb_Ar_copyOf2 17 = .ok (.iload_n 1, 1) := by decide +kernel
theorem dd_Ar_copyOf2_18 : decode bb_Ar_copyOf2 18 = .ok (.invokestatic 95, 3) := by decide +kernel
theorem dd_Ar_copyOf2_21 : decode bb_Ar_copyOf2 21 = .ok (.checkcast 110, 3) := by decide +kernel
theorem dd_Ar_copyOf2_24 : decode bb_Ar_copyOf2 24 = .ok (.astore_n 3, 1) := by decide +kernel
theorem dd_Ar_copyOf2_25 : decode bb_Ar_copyOf2 25 = .ok (.aload_n 0, 1) := by decide +kernel
theorem dd_Ar_copyOf2_26 : decode bb_Ar_copyOf2 26 = .ok (.iconst 0, 1) := by decide +kernel
theorem dd_Ar_copyOf2_27 : decode bb_Ar_copyOf2 27 = .ok (.aload_n 3, 1) := by decide +kernel
theorem dd_Ar_copyOf2_28 : decode bb_Ar_copyOf2 28 = .ok (.iconst 0, 1) := by decide +kernel
theorem dd_Ar_copyOf2_29 : decode bb_Ar_copyOf2 29 = .ok (.aload_n 0, 1) := by decide +kernel
theorem dd_Ar_copyOf2_30 : decode bb_Ar_copyOf2 30 = .ok (.arraylength, 1) := by decide +kernel
theorem dd_Ar_copyOf2_31 : decode bb_Ar_copyOf2 31 = .ok (.iload_n 1, 1) := by decide +kernel
theorem dd_Ar_copyOf2_32 : decode bb_Ar_copyOf2 32 = .ok (.invokestatic 304, 3) := by decide +kernel
theorem dd_Ar_copyOf2_35 : decode bb_Ar_copyOf2 35 = .ok (.invokestatic 150, 3) := by decide +kernel
theorem dd_Ar_copyOf2_38 : decode bb_Ar_copyOf2 38 = .ok (.aload_n 3, 1) := by decide +kernel
theorem dd_Ar_copyOf2_39 : decode bb_Ar_copyOf2 39 = .ok (.areturn, 1) := by decide +kernel
theorem dd_AL_get_0 : decode bb_AL_get 0 = .ok (.iload_n 1, 1) := by decide +kernel
theorem dd_AL_get_1 : decode bb_AL_get 1 = .ok (.aload_n 0, 1) := by decide +kernel
theorem dd_AL_get_2 : decode bb_AL_get 2 = .ok (.getfield 48, 3) := by decide +kernel
theorem dd_AL_get_5 : decode bb_AL_get 5 = .ok (.invokestatic 118, 3) := by decide +kernel
theorem dd_AL_get_8 : decode bb_AL_get 8 = .ok (.pop, 1) := by decide +kernel
theorem dd_AL_get_9 : decode bb_AL_get 9 = .ok (.aload_n 0, 1) := by decide +kernel
theorem dd_AL_get_10 : decode bb_AL_get 10 = .ok (.iload_n 1, 1) := by decide +kernel
theorem dd_AL_get_11 : decode bb_AL_get 11 = .ok (.invokevirtual 123, 3) := by decide +kernel
theorem dd_AL_get_14 : decode bb_AL_get 14 = .ok (.areturn, 1) := by decide +kernel
theorem dd_Oj_checkIndex_0 : decode bb_Oj_checkIndex 0 = .ok (.iload_n 0, 1) := by decide +kernel
theorem dd_Oj_checkIndex_1 : decode bb_Oj_checkIndex 1 = .ok (.iload_n 1, 1) := by decide +kernel
theorem dd_Oj_checkIndex_2 : decode bb_Oj_checkIndex 2 = .ok (.aconst_null, 1) := by decide +kernel
theorem dd_Oj_checkIndex_3 : decode bb_Oj_checkIndex 3 = .ok (.invokestatic 105, 3) := by decide +kernel
theorem dd_Oj_checkIndex_6 : decode bb_Oj_checkIndex 6 = .ok (.ireturn, 1) := by decide +kernel
theorem dd_AL_elementData_0 : decode bb_AL_elementData 0 = .ok (.aload_n 0, 1) := by decide +kernel
theorem dd_AL_elementData_1 : decode bb_AL_elementData 1 = .ok (.getfield 9, 3) := by decide +kernel
theorem dd_AL_elementData_4 : decode bb_AL_elementData 4 = .ok (.iload_n 1, 1) := by decide +kernel
theorem dd_AL_elementData_5 : decode bb_AL_elementData 5 = .ok (.aaload, 1) := by decide +kernel
theorem dd_AL_elementData_6 : decode bb_AL_elementData 6 = .ok (.areturn, 1) := by decide +kernel
theorem dd_AL_remove_0 : decode bb_AL_remove 0 = .ok (.iload_n 1, 1) := by decide +kernel
theorem dd_AL_remove_1 : decode bb_AL_remove 1 = .ok (.aload_n 0, 1) := by decide +kernel
theorem dd_AL_remove_2 : decode bb_AL_remove 2 = .ok (.getfield 48, 3) := by decide +kernel
theorem dd_AL_remove_5 : decode bb_AL_remove 5 = .ok (.invokestatic 118, 3) := by decide +kernel
theorem dd_AL_remove_8 : decode bb_AL_remove 8 = .ok (.pop, 1) := by decide +kernel
theorem dd_AL_remove_9 : decode bb_AL_remove 9 = .ok (.aload_n 0, 1) := by decide +kernel
theorem dd_AL_remove_10 : decode bb_AL_remove 10 = .ok (.getfield 9, 3) := by decide +kernel
theorem dd_AL_remove_13 : decode bb_AL_remove 13 = .ok (.astore_n 2, 1) := by decide +kernel
theorem dd_AL_remove_14 : decode bb_AL_remove 14 = .ok (.aload_n 2, 1) := by decide +kernel
theorem dd_AL_remove_15 : decode bb_AL_remove 15 = .ok (.iload_n 1, 1) := by decide +kernel
theorem dd_AL_remove_16 : decode bb_AL_remove 16 = .ok (.aaload, 1) := by decide +kernel
theorem dd_AL_remove_17 : decode bb_AL_remove 17 = .ok (.astore_n 3, 1) := by decide +kernel
theorem dd_AL_remove_18 : decode bb_AL_remove 18 = .ok (.aload_n 0, 1) := by decide +kernel
theorem dd_AL_remove_19 : decode bb_AL_remove 19 = .ok (.aload_n 2, 1) := by decide +kernel
theorem dd_AL_remove_20 : decode bb_AL_remove 20 = .ok (.iload_n 1, 1) := by decide +kernel
theorem dd_AL_remove_21 : decode bb_AL_remove 21 = .ok (.invokevirtual 144, 3) := by decide +kernel
theorem dd_AL_remove_24 : decode bb_AL_remove 24 = .ok (.aload_n 3, 1) := by decide +kernel
theorem dd_AL_remove_25 : decode bb_AL_remove 25 = .ok (.areturn, 1) := by decide +kernel
theorem dd_AL_fastRemove_0 : decode bb_AL_fastRemove 0 = .ok (.aload_n 0, 1) := by decide +kernel
theorem dd_AL_fastRemove_1 : decode bb_AL_fastRemove 1 = .ok (.dup, 1) := by decide +kernel
theorem dd_AL_fastRemove_2 : decode bb_AL_fastRemove 2 = .ok (.getfield 63, 3) := by decide +kernel
theorem dd_AL_fastRemove_5 : decode bb_AL_fastRemove 5 = .ok (.iconst 1, 1) := by decide +kernel
theorem dd_AL_fastRemove_6 : decode bb_AL_fastRemove 6 = .ok (.iadd, 1) := by decide +kernel
theorem dd_AL_fastRemove_7 : decode bb_AL_fastRemove 7 = .ok (.putfield 63, 3) := by decide +kernel
theorem dd_AL_fastRemove_10 : decode bb_AL_fastRemove 10 = .ok (.aload_n 0, 1) := by decide +kernel
theorem dd_AL_fastRemove_11 : decode bb_AL_fastRemove 11 = .ok (.getfield 48, 3) := by decide +kernel
theorem dd_AL_fastRemove_14 : decode bb_AL_fastRemove 14 = .ok (.iconst 1, 1) := by decide +kernel
theorem dd_AL_fastRemove_15 : decode bb_AL_fastRemove 15 = .ok (.isub, 1) := by decide +kernel
theorem dd_AL_fastRemove_16 : decode bb_AL_fastRemove 16 = .ok (.dup, 1) := by decide +kernel
theorem dd_AL_fastRemove_17 : decode bb_AL_fastRemove 17 = .ok (.istore_n 3, 1) := by decide +kernel
theorem dd_AL_fastRemove_18 : decode bb_AL_fastRemove 18 = .ok (.iload_n 2, 1) := by decide +kernel
theorem dd_AL_fastRemove_19 : decode bb_AL_fastRemove 19 = .ok (.if_icmp .le (15), 3) := by decide +kernel
theorem dd_AL_fastRemove_22 : decode bb_AL_fastRemove 22 = .ok (.aload_n 1, 1) := by decide +kernel
theorem dd_AL_fastRemove_23 : decode bb_AL_fastRemove 23 = .ok (.iload_n 2, 1) := by decide +kernel
theorem dd_AL_fastRemove_24 : decode bb_AL_fastRemove 24 = .ok (.iconst 1, 1) := by decide +kernel
theorem dd_AL_fastRemove_25 : decode bb_AL_fastRemove 25 = .ok (.iadd, 1) := by decide +kernel
theorem dd_AL_fastRemove_26 : decode bb_AL_fastRemove 26 = .ok (.aload_n 1, 1) := by decide +kernel
theorem dd_AL_fastRemove_27 : decode bb_AL_fastRemove 27 = .ok (.iload_n 2, 1) := by decide +kernel
theorem dd_AL_fastRemove_28 : decode bb_AL_fastRemove 28 = .ok (.iload_n 3, 1) := by decide +kernel
theorem dd_AL_fastRemove_29 : decode bb_AL_fastRemove 29 = .ok (.iload_n 2, 1) := by decide +kernel
theorem dd_AL_fastRemove_30 : decode bb_AL_fastRemove 30 = .ok (.isub, 1) := by decide +kernel
theorem dd_AL_fastRemove_31 : decode bb_AL_fastRemove 31 = .ok (.invokestatic 112, 3) := by decide +kernel
theorem dd_AL_fastRemove_34 : decode bb_AL_fastRemove 34 = .ok (.aload_n 1, 1) := by decide +kernel
theorem dd_AL_fastRemove_35 : decode bb_AL_fastRemove 35 = .ok (.aload_n 0, 1) := by decide +kernel
theorem dd_AL_fastRemove_36 : decode bb_AL_fastRemove 36 = .ok (.iload_n 3, 1) := by decide +kernel
theorem dd_AL_fastRemove_37 : decode bb_AL_fastRemove 37 = .ok (.dup_x1, 1) := by decide +kernel
theorem dd_AL_fastRemove_38 : decode bb_AL_fastRemove 38 = .ok (.putfield 48, 3) := by decide +kernel
theorem dd_AL_fastRemove_41 : decode bb_AL_fastRemove 41 = .ok (.aconst_null, 1) := by decide +kernel
theorem dd_AL_fastRemove_42 : decode bb_AL_fastRemove 42 = .ok (.aastore, 1) := by decide +kernel
theorem dd_AL_fastRemove_43 : decode bb_AL_fastRemove 43 = .ok (.return_, 1) := by decide +kernel
theorem dd_AL_clear_0 : decode bb_AL_clear 0 = .ok (.aload_n 0, 1) := by decide +kernel
theorem dd_AL_clear_1 : decode bb_AL_clear 1 = .ok (.dup, 1) := by decide +kernel
theorem dd_AL_clear_2 : decode bb_AL_clear 2 = .ok (.getfield 63, 3) := by decide +kernel
theorem dd_AL_clear_5 : decode bb_AL_clear 5 = .ok (.iconst 1, 1) := by decide +kernel
theorem dd_AL_clear_6 : decode bb_AL_clear 6 = .ok (.iadd, 1) := by decide +kernel
theorem dd_AL_clear_7 : decode bb_AL_clear 7 = .ok (.putfield 63, 3) := by decide +kernel
theorem dd_AL_clear_10 : decode bb_AL_clear 10 = .ok (.aload_n 0, 1) := by decide +kernel
theorem dd_AL_clear_11 : decode bb_AL_clear 11 = .ok (.getfield 9, 3) := by decide +kernel
theorem dd_AL_clear_14 : decode bb_AL_clear 14 = .ok (.astore_n 1, 1) := by decide +kernel
theorem dd_AL_clear_15 : decode bb_AL_clear 15 = .ok (.aload_n 0, 1) := by decide +kernel
theorem dd_AL_clear_16 : decode bb_AL_clear 16 = .ok (.getfield 48, 3) := by decide +kernel
theorem dd_AL_clear_19 : decode bb_AL_clear 19 = .ok (.istore_n 2, 1) := by decide +kernel
theorem dd_AL_clear_20 : decode bb_AL_clear 20 = .ok (.aload_n 0, 1) := by decide +kernel
theorem dd_AL_clear_21 : decode bb_AL_clear 21 = .ok (.iconst 0, 1) := by decide +kernel
theorem dd_AL_clear_22 : decode bb_AL_clear 22 = .ok (.dup_x1, 1) := by decide +kernel
theorem dd_AL_clear_23 : decode bb_AL_clear 23 = .ok (.putfield 48, 3) := by decide +kernel
theorem dd_AL_clear_26 : decode bb_AL_clear 26 = .ok (.istore_n 3, 1) := by decide +kernel
theorem dd_AL_clear_27 : decode bb_AL_clear 27 = .ok (.iload_n 3, 1) := by decide +kernel
theorem dd_AL_clear_28 : decode bb_AL_clear 28 = .ok (.iload_n 2, 1) := by decide +kernel
theorem dd_AL_clear_29 : decode bb_AL_clear 29 = .ok (.if_icmp .ge (13), 3) := by decide +kernel
theorem dd_AL_clear_32 : decode bb_AL_clear 32 = .ok (.aload_n 1, 1) := by decide +kernel
theorem dd_AL_clear_33 : decode bb_AL_clear 33 = .ok (.iload_n 3, 1) := by decide +kernel
theorem dd_AL_clear_34 : decode bb_AL_clear 34 = .ok (.aconst_null, 1) := by decide +kernel
theorem dd_AL_clear_35 : decode bb_AL_clear 35 = .ok (.aastore, 1) := by decide +kernel
theorem dd_AL_clear_36 : decode bb_AL_clear 36 = .ok (.iinc 3 (1), 3) := by decide +kernel
theorem dd_AL_clear_39 : decode bb_AL_clear 39 = .ok (.goto (-12), 3) := by decide +kernel
theorem dd_AL_clear_42 : decode bb_AL_clear 42 = .ok (.return_, 1) := by decide +kernel
theorem dd_AL_isEmpty_0 : decode bb_AL_isEmpty 0 = .ok (.aload_n 0, 1) := by decide +kernel
theorem dd_AL_isEmpty_1 : decode bb_AL_isEmpty 1 = .ok (.getfield 48, 3) := by decide +kernel
theorem dd_AL_isEmpty_4 : decode bb_AL_isEmpty 4 = .ok (.ifCond .ne (7), 3) := by decide +kernel
theorem dd_AL_isEmpty_7 : decode bb_AL_isEmpty 7 = .ok (.iconst 1, 1) := by decide +kernel
theorem dd_AL_isEmpty_8 : decode bb_AL_isEmpty 8 = .ok (.goto (4), 3) := by decide +kernel
theorem dd_AL_isEmpty_11 : decode bb_AL_isEmpty 11 = .ok (.iconst 0, 1) := by decide +kernel
theorem dd_AL_isEmpty_12 : decode bb_AL_isEmpty 12 = .ok (.ireturn, 1) := by decide +kernel
