theorem dd_AL_init_0 : decode bb_AL_init 0 = .ok (.aload_n 0, 1) := by decide +kernel
theorem dd_AL_init_1 : decode bb_AL_init 1 = .ok (.invokespecial 1, 3) := by decide +kernel
theorem dd_AL_init_4 : decode bb_AL_init 4 = .ok (.aload_n 0, 1) := by decide +kernel
theorem dd_AL_init_5 : decode bb_AL_init 5 = .ok (.getstatic 39, 3) := by decide +kernel
theorem dd_AL_init_8 : decode bb_AL_init 8 = .ok (.putfield 9, 3) := by decide +kernel
theorem dd_AL_init_11 : decode bb_AL_init 11 = .ok (.return_, 1) := by decide +kernel
theorem dd_Ab_init_0 : decode bb_Ab_init 0 = .ok (.aload_n 0, 1) := by decide +kernel
theorem dd_Ab_init_1 : decode bb_Ab_init 1 = .ok (.invokespecial 1, 3) := by decide +kernel
theorem dd_Ab_init_4 : decode bb_Ab_init 4 = .ok (.aload_n 0, 1) := by decide +kernel
theorem dd_Ab_init_5 : decode bb_Ab_init 5 = .ok (.iconst 0, 1) := by decide +kernel
theorem dd_Ab_init_6 : decode bb_Ab_init 6 = .ok (.putfield 7, 3) := by decide +kernel
theorem dd_Ab_init_9 : decode bb_Ab_init 9 = .ok (.return_, 1) := by decide +kernel
theorem dd_Ac_init_0 : decode bb_Ac_init 0 = .ok (.aload_n 0, 1) := by decide +kernel
theorem dd_Ac_init_1 : decode bb_Ac_init 1 = .ok (.invokespecial 1, 3) := by decide +kernel
theorem dd_Ac_init_4 : decode bb_Ac_init 4 = .ok (.return_, 1) := by decide +kernel
theorem dd_St_length_0 : decode bb_St_length 0 = .ok (.aload_n 0, 1) := by decide +kernel
theorem dd_St_length_1 : decode bb_St_length 1 = .ok (.getfield 9, 3) := by decide +kernel
theorem dd_St_length_4 : decode bb_St_length 4 = .ok (.arraylength, 1) := by decide +kernel
theorem dd_St_length_5 : decode bb_St_length 5 = .ok (.aload_n 0, 1) := by decide +kernel
theorem dd_St_length_6 : decode bb_St_length 6 = .ok (.invokevirtual 335, 3) := by decide +kernel
theorem dd_St_length_9 : decode bb_St_length 9 = .ok (.ishr, 1) := by decide +kernel
theorem dd_St_length_10 : decode bb_St_length 10 = .ok (.ireturn, 1) := by decide +kernel
theorem dd_St_coder_0 : decode bb_St_coder 0 = .ok (.getstatic 38, 3) := by decide +kernel
theorem dd_St_coder_3 : decode bb_St_coder 3 = .ok (.ifCond .eq (10), 3) := by decide +kernel
theorem dd_St_coder_6 : decode bb_St_coder 6 = .ok (.aload_n 0, 1) := by decide +kernel
theorem dd_St_coder_7 : decode bb_St_coder 7 = .ok (.getfield 15, 3) := by decide +kernel
theorem dd_St_coder_10 : decode bb_St_coder 10 = .ok (.goto (4), 3) := by decide +kernel
theorem dd_St_coder_14 : decode bb_St_coder 14 = .ok (.ireturn, 1) := by decide +kernel
theorem dd_AL_size_0 : decode bb_AL_size 0 = .ok (.aload_n 0, 1) := by decide +kernel
theorem dd_AL_size_1 : decode bb_AL_size 1 = .ok (.getfield 48, 3) := by decide +kernel
theorem dd_AL_size_4 : decode bb_AL_size 4 = .ok (.ireturn, 1) := by decide +kernel
theorem dd_AL_isEmpty_0 : decode bb_AL_isEmpty 0 = .ok (.aload_n 0, 1) := by decide +kernel
theorem dd_AL_isEmpty_1 : decode bb_AL_isEmpty 1 = .ok (.getfield 48, 3) := by decide +kernel
theorem dd_AL_isEmpty_4 : decode bb_AL_isEmpty 4 = .ok (.ifCond .ne (7), 3) := by decide +kernel
theorem dd_AL_isEmpty_7 : decode bb_AL_isEmpty 7 = .ok (.iconst 1, 1) := by decide +kernel
theorem dd_AL_isEmpty_8 : decode bb_AL_isEmpty 8 = .ok (.goto (4), 3) := by decide +kernel
theorem dd_AL_isEmpty_11 : decode bb_AL_isEmpty 11 = .ok (.iconst 0, 1) := by decide +kernel
theorem dd_AL_isEmpty_12 : decode bb_AL_isEmpty 12 = .ok (.ireturn, 1) := by decide +kernel

