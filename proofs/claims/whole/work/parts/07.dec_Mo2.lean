theorem dd_Mo_forget_0 : decode bb_Mo_forget 0 = .ok (.iconst 0, 1) := by decide +kernel
theorem dd_Mo_forget_1 : decode bb_Mo_forget 1 = .ok (.istore_n 2, 1) := by decide +kernel
theorem dd_Mo_forget_2 : decode bb_Mo_forget 2 = .ok (.iload_n 2, 1) := by decide +kernel
theorem dd_Mo_forget_3 : decode bb_Mo_forget 3 = .ok (.bipush (60), 2) := by decide +kernel
theorem dd_Mo_forget_5 : decode bb_Mo_forget 5 = .ok (.if_icmp .ge (21), 3) := by decide +kernel
theorem dd_Mo_forget_8 : decode bb_Mo_forget 8 = .ok (.aload_n 0, 1) := by decide +kernel
theorem dd_Mo_forget_9 : decode bb_Mo_forget 9 = .ok (.getfield 54, 3) := by decide +kernel
theorem dd_Mo_forget_12 : decode bb_Mo_forget 12 = .ok (.bipush (60), 2) := by decide +kernel
theorem dd_Mo_forget_14 : decode bb_Mo_forget 14 = .ok (.iload_n 1, 1) := by decide +kernel
theorem dd_Mo_forget_15 : decode bb_Mo_forget 15 = .ok (.imul, 1) := by decide +kernel
theorem dd_Mo_forget_16 : decode bb_Mo_forget 16 = .ok (.iload_n 2, 1) := by decide +kernel
theorem dd_Mo_forget_17 : decode bb_Mo_forget 17 = .ok (.iadd, 1) := by decide +kernel
theorem dd_Mo_forget_18 : decode bb_Mo_forget 18 = .ok (.iconst 0, 1) := by decide +kernel
theorem dd_Mo_forget_19 : decode bb_Mo_forget 19 = .ok (.iastore, 1) := by decide +kernel
theorem dd_Mo_forget_20 : decode bb_Mo_forget 20 = .ok (.iinc 2 (1), 3) := by decide +kernel
theorem dd_Mo_forget_23 : decode bb_Mo_forget 23 = .ok (.goto (-21), 3) := by decide +kernel
theorem dd_Mo_forget_26 : decode bb_Mo_forget 26 = .ok (.aload_n 0, 1) := by decide +kernel
theorem dd_Mo_forget_27 : decode bb_Mo_forget 27 = .ok (.getfield 69, 3) := by decide +kernel
theorem dd_Mo_forget_30 : decode bb_Mo_forget 30 = .ok (.iload_n 1, 1) := by decide +kernel
theorem dd_Mo_forget_31 : decode bb_Mo_forget 31 = .ok (.iconst 0, 1) := by decide +kernel
theorem dd_Mo_forget_32 : decode bb_Mo_forget 32 = .ok (.iastore, 1) := by decide +kernel
theorem dd_Mo_forget_33 : decode bb_Mo_forget 33 = .ok (.aload_n 0, 1) := by decide +kernel
theorem dd_Mo_forget_34 : decode bb_Mo_forget 34 = .ok (.getfield 72, 3) := by decide +kernel
theorem dd_Mo_forget_37 : decode bb_Mo_forget 37 = .ok (.iload_n 1, 1) := by decide +kernel
theorem dd_Mo_forget_38 : decode bb_Mo_forget 38 = .ok (.iconst 0, 1) := by decide +kernel
theorem dd_Mo_forget_39 : decode bb_Mo_forget 39 = .ok (.iastore, 1) := by decide +kernel
theorem dd_Mo_forget_40 : decode bb_Mo_forget 40 = .ok (.return_, 1) := by decide +kernel
theorem dd_Mo_sync_0 : decode bb_Mo_sync 0 = .ok (.iload_n 1, 1) := by decide +kernel
theorem dd_Mo_sync_1 : decode bb_Mo_sync 1 = .ok (.iconst 0, 1) := by decide +kernel
theorem dd_Mo_sync_2 : decode bb_Mo_sync 2 = .ok (.aload_n 0, 1) := by decide +kernel
theorem dd_Mo_sync_3 : decode bb_Mo_sync 3 = .ok (.getfield 173, 3) := by decide +kernel
theorem dd_Mo_sync_6 : decode bb_Mo_sync 6 = .ok (.iconst 1, 1) := by decide +kernel
theorem dd_Mo_sync_7 : decode bb_Mo_sync 7 = .ok (.isub, 1) := by decide +kernel
theorem dd_Mo_sync_8 : decode bb_Mo_sync 8 = .ok (.invokestatic 118, 3) := by decide +kernel
theorem dd_Mo_sync_11 : decode bb_Mo_sync 11 = .ok (.ifCond .eq (7), 3) := by decide +kernel
theorem dd_Mo_sync_14 : decode bb_Mo_sync 14 = .ok (.sipush (-1001), 3) := by decide +kernel
theorem dd_Mo_sync_17 : decode bb_Mo_sync 17 = .ok (.ireturn, 1) := by decide +kernel
theorem dd_Mo_sync_18 : decode bb_Mo_sync 18 = .ok (.aload_n 0, 1) := by decide +kernel
theorem dd_Mo_sync_19 : decode bb_Mo_sync 19 = .ok (.iload_n 1, 1) := by decide +kernel
theorem dd_Mo_sync_20 : decode bb_Mo_sync 20 = .ok (.invokevirtual 189, 3) := by decide +kernel
theorem dd_Mo_sync_23 : decode bb_Mo_sync 23 = .ok (.istore_n 2, 1) := by decide +kernel
theorem dd_Mo_sync_24 : decode bb_Mo_sync 24 = .ok (.iconst 0, 1) := by decide +kernel
theorem dd_Mo_sync_25 : decode bb_Mo_sync 25 = .ok (.istore_n 3, 1) := by decide +kernel
theorem dd_Mo_sync_26 : decode bb_Mo_sync 26 = .ok (.iconst 0, 1) := by decide +kernel
theorem dd_Mo_sync_27 : decode bb_Mo_sync 27 = .ok (.istore 4, 2) := by decide +kernel
theorem dd_Mo_sync_29 : decode bb_Mo_sync 29 = .ok (.iload 4, 2) := by decide +kernel
theorem dd_Mo_sync_31 : decode bb_Mo_sync 31 = .ok (.aload_n 0, 1) := by decide +kernel
theorem dd_Mo_sync_32 : decode bb_Mo_sync 32 = .ok (.getfield 167, 3) := by decide +kernel
theorem dd_Mo_sync_35 : decode bb_Mo_sync 35 = .ok (.if_icmp .ge (37), 3) := by decide +kernel
theorem dd_Mo_sync_38 : decode bb_Mo_sync 38 = .ok (.aload_n 0, 1) := by decide +kernel
theorem dd_Mo_sync_39 : decode bb_Mo_sync 39 = .ok (.iload_n 2, 1) := by decide +kernel
theorem dd_Mo_sync_40 : decode bb_Mo_sync 40 = .ok (.iload 4, 2) := by decide +kernel
theorem dd_Mo_sync_42 : decode bb_Mo_sync 42 = .ok (.invokevirtual 192, 3) := by decide +kernel
theorem dd_Mo_sync_45 : decode bb_Mo_sync 45 = .ok (.ifCond .eq (19), 3) := by decide +kernel
theorem dd_Mo_sync_48 : decode bb_Mo_sync 48 = .ok (.aload_n 0, 1) := by decide +kernel
theorem dd_Mo_sync_49 : decode bb_Mo_sync 49 = .ok (.iload_n 1, 1) := by decide +kernel
theorem dd_Mo_sync_50 : decode bb_Mo_sync 50 = .ok (.iload 4, 2) := by decide +kernel
theorem dd_Mo_sync_52 : decode bb_Mo_sync 52 = .ok (.invokevirtual 195, 3) := by decide +kernel
theorem dd_Mo_sync_55 : decode bb_Mo_sync 55 = .ok (.ifCond .eq (9), 3) := by decide +kernel
theorem dd_Mo_sync_58 : decode bb_Mo_sync 58 = .ok (.iload_n 3, 1) := by decide +kernel
theorem dd_Mo_sync_59 : decode bb_Mo_sync 59 = .ok (.iconst 1, 1) := by decide +kernel
theorem dd_Mo_sync_60 : decode bb_Mo_sync 60 = .ok (.iadd, 1) := by decide +kernel
theorem dd_Mo_sync_61 : decode bb_Mo_sync 61 = .ok (.goto (4), 3) := by decide +kernel
theorem dd_Mo_sync_64 : decode bb_Mo_sync 64 = .ok (.iload_n 3, 1) := by decide +kernel
theorem dd_Mo_sync_65 : decode bb_Mo_sync 65 = .ok (.istore_n 3, 1) := by decide +kernel
theorem dd_Mo_sync_66 : decode bb_Mo_sync 66 = .ok (.iinc 4 (1), 3) := by decide +kernel
theorem dd_Mo_sync_69 : decode bb_Mo_sync 69 = .ok (.goto (-40), 3) := by decide +kernel
theorem dd_Mo_sync_72 : decode bb_Mo_sync 72 = .ok (.iload_n 3, 1) := by decide +kernel
theorem dd_Mo_sync_73 : decode bb_Mo_sync 73 = .ok (.ifCond .le (18), 3) := by decide +kernel
theorem dd_Mo_sync_76 : decode bb_Mo_sync 76 = .ok (.aload_n 0, 1) := by decide +kernel
theorem dd_Mo_sync_77 : decode bb_Mo_sync 77 = .ok (.aload_n 0, 1) := by decide +kernel
theorem dd_Mo_sync_78 : decode bb_Mo_sync 78 = .ok (.getfield 183, 3) := by decide +kernel
theorem dd_Mo_sync_81 : decode bb_Mo_sync 81 = .ok (.invokevirtual 198, 3) := by decide +kernel
theorem dd_Mo_sync_84 : decode bb_Mo_sync 84 = .ok (.ifCond .ne (7), 3) := by decide +kernel
theorem dd_Mo_sync_87 : decode bb_Mo_sync 87 = .ok (.sipush (-1005), 3) := by decide +kernel
theorem dd_Mo_sync_90 : decode bb_Mo_sync 90 = .ok (.ireturn, 1) := by decide +kernel
theorem dd_Mo_sync_91 : decode bb_Mo_sync 91 = .ok (.iconst 0, 1) := by decide +kernel
theorem dd_Mo_sync_92 : decode bb_Mo_sync 92 = .ok (.istore 4, 2) := by decide +kernel
theorem dd_Mo_sync_94 : decode bb_Mo_sync 94 = .ok (.iload 4, 2) := by decide +kernel
theorem dd_Mo_sync_96 : decode bb_Mo_sync 96 = .ok (.aload_n 0, 1) := by decide +kernel
theorem dd_Mo_sync_97 : decode bb_Mo_sync 97 = .ok (.getfield 167, 3) := by decide +kernel
theorem dd_Mo_sync_100 : decode bb_Mo_sync 100 = .ok (.if_icmp .ge (52), 3) := by decide +kernel
theorem dd_Mo_sync_103 : decode bb_Mo_sync 103 = .ok (.aload_n 0, 1) := by decide +kernel
theorem dd_Mo_sync_104 : decode bb_Mo_sync 104 = .ok (.iload_n 2, 1) := by decide +kernel
theorem dd_Mo_sync_105 : decode bb_Mo_sync 105 = .ok (.iload 4, 2) := by decide +kernel
theorem dd_Mo_sync_107 : decode bb_Mo_sync 107 = .ok (.invokevirtual 192, 3) := by decide +kernel
theorem dd_Mo_sync_110 : decode bb_Mo_sync 110 = .ok (.ifCond .ne (19), 3) := by decide +kernel
theorem dd_Mo_sync_113 : decode bb_Mo_sync 113 = .ok (.aload_n 0, 1) := by decide +kernel
theorem dd_Mo_sync_114 : decode bb_Mo_sync 114 = .ok (.getfield 54, 3) := by decide +kernel
theorem dd_Mo_sync_117 : decode bb_Mo_sync 117 = .ok (.bipush (60), 2) := by decide +kernel
theorem dd_Mo_sync_119 : decode bb_Mo_sync 119 = .ok (.iload_n 1, 1) := by decide +kernel
theorem dd_Mo_sync_120 : decode bb_Mo_sync 120 = .ok (.imul, 1) := by decide +kernel
theorem dd_Mo_sync_121 : decode bb_Mo_sync 121 = .ok (.iload 4, 2) := by decide +kernel
theorem dd_Mo_sync_123 : decode bb_Mo_sync 123 = .ok (.iadd, 1) := by decide +kernel
theorem dd_Mo_sync_124 : decode bb_Mo_sync 124 = .ok (.iconst 0, 1) := by decide +kernel
theorem dd_Mo_sync_125 : decode bb_Mo_sync 125 = .ok (.iastore, 1) := by decide +kernel
theorem dd_Mo_sync_126 : decode bb_Mo_sync 126 = .ok (.goto (20), 3) := by decide +kernel
theorem dd_Mo_sync_129 : decode bb_Mo_sync 129 = .ok (.aload_n 0, 1) := by decide +kernel
theorem dd_Mo_sync_130 : decode bb_Mo_sync 130 = .ok (.iload_n 1, 1) := by decide +kernel
theorem dd_Mo_sync_131 : decode bb_Mo_sync 131 = .ok (.iload 4, 2) := by decide +kernel
theorem dd_Mo_sync_133 : decode bb_Mo_sync 133 = .ok (.invokevirtual 195, 3) := by decide +kernel
theorem dd_Mo_sync_136 : decode bb_Mo_sync 136 = .ok (.ifCond .eq (10), 3) := by decide +kernel
theorem dd_Mo_sync_139 : decode bb_Mo_sync 139 = .ok (.aload_n 0, 1) := by decide +kernel
theorem dd_Mo_sync_140 : decode bb_Mo_sync 140 = .ok (.iload_n 1, 1) := by decide +kernel
theorem dd_Mo_sync_141 : decode bb_Mo_sync 141 = .ok (.iload 4, 2) := by decide +kernel
theorem dd_Mo_sync_143 : decode bb_Mo_sync 143 = .ok (.invokevirtual 201, 3) := by decide +kernel
theorem dd_Mo_sync_146 : decode bb_Mo_sync 146 = .ok (.iinc 4 (1), 3) := by decide +kernel
theorem dd_Mo_sync_149 : decode bb_Mo_sync 149 = .ok (.goto (-55), 3) := by decide +kernel
theorem dd_Mo_sync_152 : decode bb_Mo_sync 152 = .ok (.aload_n 0, 1) := by decide +kernel
theorem dd_Mo_sync_153 : decode bb_Mo_sync 153 = .ok (.getfield 69, 3) := by decide +kernel
theorem dd_Mo_sync_156 : decode bb_Mo_sync 156 = .ok (.iload_n 1, 1) := by decide +kernel
theorem dd_Mo_sync_157 : decode bb_Mo_sync 157 = .ok (.iconst 0, 1) := by decide +kernel
theorem dd_Mo_sync_158 : decode bb_Mo_sync 158 = .ok (.iastore, 1) := by decide +kernel
theorem dd_Mo_sync_159 : decode bb_Mo_sync 159 = .ok (.iconst 0, 1) := by decide +kernel
theorem dd_Mo_sync_160 : decode bb_Mo_sync 160 = .ok (.istore 4, 2) := by decide +kernel
theorem dd_Mo_sync_162 : decode bb_Mo_sync 162 = .ok (.iload 4, 2) := by decide +kernel
theorem dd_Mo_sync_164 : decode bb_Mo_sync 164 = .ok (.aload_n 0, 1) := by decide +kernel
theorem dd_Mo_sync_165 : decode bb_Mo_sync 165 = .ok (.getfield 112, 3) := by decide +kernel
theorem dd_Mo_sync_168 : decode bb_Mo_sync 168 = .ok (.if_icmp .ge (45), 3) := by decide +kernel
theorem dd_Mo_sync_171 : decode bb_Mo_sync 171 = .ok (.aload_n 0, 1) := by decide +kernel
theorem dd_Mo_sync_172 : decode bb_Mo_sync 172 = .ok (.iload 4, 2) := by decide +kernel
theorem dd_Mo_sync_174 : decode bb_Mo_sync 174 = .ok (.invokevirtual 198, 3) := by decide +kernel
theorem dd_Mo_sync_177 : decode bb_Mo_sync 177 = .ok (.ifCond .eq (30), 3) := by decide +kernel
theorem dd_Mo_sync_180 : decode bb_Mo_sync 180 = .ok (.aload_n 0, 1) := by decide +kernel
theorem dd_Mo_sync_181 : decode bb_Mo_sync 181 = .ok (.getfield 66, 3) := by decide +kernel
theorem dd_Mo_sync_184 : decode bb_Mo_sync 184 = .ok (.iconst 4, 1) := by decide +kernel
theorem dd_Mo_sync_185 : decode bb_Mo_sync 185 = .ok (.iload_n 1, 1) := by decide +kernel
theorem dd_Mo_sync_186 : decode bb_Mo_sync 186 = .ok (.imul, 1) := by decide +kernel
theorem dd_Mo_sync_187 : decode bb_Mo_sync 187 = .ok (.aload_n 0, 1) := by decide +kernel
theorem dd_Mo_sync_188 : decode bb_Mo_sync 188 = .ok (.getfield 69, 3) := by decide +kernel
theorem dd_Mo_sync_191 : decode bb_Mo_sync 191 = .ok (.iload_n 1, 1) := by decide +kernel
theorem dd_Mo_sync_192 : decode bb_Mo_sync 192 = .ok (.iaload, 1) := by decide +kernel
theorem dd_Mo_sync_193 : decode bb_Mo_sync 193 = .ok (.iadd, 1) := by decide +kernel
theorem dd_Mo_sync_194 : decode bb_Mo_sync 194 = .ok (.iload 4, 2) := by decide +kernel
theorem dd_Mo_sync_196 : decode bb_Mo_sync 196 = .ok (.iastore, 1) := by decide +kernel
theorem dd_Mo_sync_197 : decode bb_Mo_sync 197 = .ok (.aload_n 0, 1) := by decide +kernel
theorem dd_Mo_sync_198 : decode bb_Mo_sync 198 = .ok (.getfield 69, 3) := by decide +kernel
theorem dd_Mo_sync_201 : decode bb_Mo_sync 201 = .ok (.iload_n 1, 1) := by decide +kernel
theorem dd_Mo_sync_202 : decode bb_Mo_sync 202 = .ok (.dup2, 1) := by decide +kernel
theorem dd_Mo_sync_203 : decode bb_Mo_sync 203 = .ok (.iaload, 1) := by decide +kernel
theorem dd_Mo_sync_204 : decode bb_Mo_sync 204 = .ok (.iconst 1, 1) := by decide +kernel
theorem dd_Mo_sync_205 : decode bb_Mo_sync 205 = .ok (.iadd, 1) := by decide +kernel
theorem dd_Mo_sync_206 : decode bb_Mo_sync 206 = .ok (.iastore, 1) := by decide +kernel
theorem dd_Mo_sync_207 : decode bb_Mo_sync 207 = .ok (.iinc 4 (1), 3) := by decide +kernel
theorem dd_Mo_sync_210 : decode bb_Mo_sync 210 = .ok (.goto (-48), 3) := by decide +kernel
theorem dd_Mo_sync_213 : decode bb_Mo_sync 213 = .ok (.aload_n 0, 1) := by decide +kernel
theorem dd_Mo_sync_214 : decode bb_Mo_sync 214 = .ok (.getfield 72, 3) := by decide +kernel
theorem dd_Mo_sync_217 : decode bb_Mo_sync 217 = .ok (.iload_n 1, 1) := by decide +kernel
theorem dd_Mo_sync_218 : decode bb_Mo_sync 218 = .ok (.aload_n 0, 1) := by decide +kernel
theorem dd_Mo_sync_219 : decode bb_Mo_sync 219 = .ok (.getfield 170, 3) := by decide +kernel
theorem dd_Mo_sync_222 : decode bb_Mo_sync 222 = .ok (.iastore, 1) := by decide +kernel
theorem dd_Mo_sync_223 : decode bb_Mo_sync 223 = .ok (.iload_n 3, 1) := by decide +kernel
theorem dd_Mo_sync_224 : decode bb_Mo_sync 224 = .ok (.ireturn, 1) := by decide +kernel
theorem dd_Mo_reach_0 : decode bb_Mo_reach 0 = .ok (.iconst 1, 1) := by decide +kernel
theorem dd_Mo_reach_1 : decode bb_Mo_reach 1 = .ok (.aload_n 0, 1) := by decide +kernel
theorem dd_Mo_reach_2 : decode bb_Mo_reach 2 = .ok (.getfield 48, 3) := by decide +kernel
theorem dd_Mo_reach_5 : decode bb_Mo_reach 5 = .ok (.iload_n 1, 1) := by decide +kernel
theorem dd_Mo_reach_6 : decode bb_Mo_reach 6 = .ok (.iaload, 1) := by decide +kernel
theorem dd_Mo_reach_7 : decode bb_Mo_reach 7 = .ok (.ishl, 1) := by decide +kernel
theorem dd_Mo_reach_8 : decode bb_Mo_reach 8 = .ok (.istore_n 2, 1) := by decide +kernel
theorem dd_Mo_reach_9 : decode bb_Mo_reach 9 = .ok (.iconst 0, 1) := by decide +kernel
theorem dd_Mo_reach_10 : decode bb_Mo_reach 10 = .ok (.istore_n 3, 1) := by decide +kernel
theorem dd_Mo_reach_11 : decode bb_Mo_reach 11 = .ok (.iload_n 3, 1) := by decide +kernel
theorem dd_Mo_reach_12 : decode bb_Mo_reach 12 = .ok (.bipush (12), 2) := by decide +kernel
theorem dd_Mo_reach_14 : decode bb_Mo_reach 14 = .ok (.if_icmp .gt (121), 3) := by decide +kernel
theorem dd_Mo_reach_17 : decode bb_Mo_reach 17 = .ok (.iconst 0, 1) := by decide +kernel
theorem dd_Mo_reach_18 : decode bb_Mo_reach 18 = .ok (.istore 4, 2) := by decide +kernel
theorem dd_Mo_reach_20 : decode bb_Mo_reach 20 = .ok (.iload 4, 2) := by decide +kernel
theorem dd_Mo_reach_22 : decode bb_Mo_reach 22 = .ok (.aload_n 0, 1) := by decide +kernel
theorem dd_Mo_reach_23 : decode bb_Mo_reach 23 = .ok (.getfield 167, 3) := by decide +kernel
theorem dd_Mo_reach_26 : decode bb_Mo_reach 26 = .ok (.if_icmp .ge (103), 3) := by decide +kernel
theorem dd_Mo_reach_29 : decode bb_Mo_reach 29 = .ok (.aload_n 0, 1) := by decide +kernel
theorem dd_Mo_reach_30 : decode bb_Mo_reach 30 = .ok (.getfield 36, 3) := by decide +kernel
theorem dd_Mo_reach_33 : decode bb_Mo_reach 33 = .ok (.iload 4, 2) := by decide +kernel
theorem dd_Mo_reach_35 : decode bb_Mo_reach 35 = .ok (.iaload, 1) := by decide +kernel
theorem dd_Mo_reach_36 : decode bb_Mo_reach 36 = .ok (.ifCond .ne (26), 3) := by decide +kernel
theorem dd_Mo_reach_39 : decode bb_Mo_reach 39 = .ok (.aload_n 0, 1) := by decide +kernel
theorem dd_Mo_reach_40 : decode bb_Mo_reach 40 = .ok (.getfield 39, 3) := by decide +kernel
theorem dd_Mo_reach_43 : decode bb_Mo_reach 43 = .ok (.iload 4, 2) := by decide +kernel
theorem dd_Mo_reach_45 : decode bb_Mo_reach 45 = .ok (.iaload, 1) := by decide +kernel
theorem dd_Mo_reach_46 : decode bb_Mo_reach 46 = .ok (.aload_n 0, 1) := by decide +kernel
theorem dd_Mo_reach_47 : decode bb_Mo_reach 47 = .ok (.getfield 51, 3) := by decide +kernel
theorem dd_Mo_reach_50 : decode bb_Mo_reach 50 = .ok (.iload_n 1, 1) := by decide +kernel
theorem dd_Mo_reach_51 : decode bb_Mo_reach 51 = .ok (.iaload, 1) := by decide +kernel
theorem dd_Mo_reach_52 : decode bb_Mo_reach 52 = .ok (.iconst (-1), 1) := by decide +kernel
theorem dd_Mo_reach_53 : decode bb_Mo_reach 53 = .ok (.ixor, 1) := by decide +kernel
theorem dd_Mo_reach_54 : decode bb_Mo_reach 54 = .ok (.iand, 1) := by decide +kernel
theorem dd_Mo_reach_55 : decode bb_Mo_reach 55 = .ok (.ifCond .ne (7), 3) := by decide +kernel
theorem dd_Mo_reach_58 : decode bb_Mo_reach 58 = .ok (.iconst 1, 1) := by decide +kernel
theorem dd_Mo_reach_59 : decode bb_Mo_reach 59 = .ok (.goto (4), 3) := by decide +kernel
theorem dd_Mo_reach_62 : decode bb_Mo_reach 62 = .ok (.iconst 0, 1) := by decide +kernel
theorem dd_Mo_reach_63 : decode bb_Mo_reach 63 = .ok (.istore 5, 2) := by decide +kernel
theorem dd_Mo_reach_65 : decode bb_Mo_reach 65 = .ok (.aload_n 0, 1) := by decide +kernel
theorem dd_Mo_reach_66 : decode bb_Mo_reach 66 = .ok (.getfield 29, 3) := by decide +kernel
theorem dd_Mo_reach_69 : decode bb_Mo_reach 69 = .ok (.iload 4, 2) := by decide +kernel
theorem dd_Mo_reach_71 : decode bb_Mo_reach 71 = .ok (.baload, 1) := by decide +kernel
theorem dd_Mo_reach_72 : decode bb_Mo_reach 72 = .ok (.ifCond .eq (27), 3) := by decide +kernel
theorem dd_Mo_reach_75 : decode bb_Mo_reach 75 = .ok (.iload 5, 2) := by decide +kernel
theorem dd_Mo_reach_77 : decode bb_Mo_reach 77 = .ok (.ifCond .ne (18), 3) := by decide +kernel
theorem dd_Mo_reach_80 : decode bb_Mo_reach 80 = .ok (.iload_n 2, 1) := by decide +kernel
theorem dd_Mo_reach_81 : decode bb_Mo_reach 81 = .ok (.aload_n 0, 1) := by decide +kernel
theorem dd_Mo_reach_82 : decode bb_Mo_reach 82 = .ok (.getfield 36, 3) := by decide +kernel
theorem dd_Mo_reach_85 : decode bb_Mo_reach 85 = .ok (.iload 4, 2) := by decide +kernel
theorem dd_Mo_reach_87 : decode bb_Mo_reach 87 = .ok (.iaload, 1) := by decide +kernel
theorem dd_Mo_reach_88 : decode bb_Mo_reach 88 = .ok (.ishr, 1) := by decide +kernel
theorem dd_Mo_reach_89 : decode bb_Mo_reach 89 = .ok (.iconst 1, 1) := by decide +kernel
theorem dd_Mo_reach_90 : decode bb_Mo_reach 90 = .ok (.iand, 1) := by decide +kernel
theorem dd_Mo_reach_91 : decode bb_Mo_reach 91 = .ok (.iconst 1, 1) := by decide +kernel
theorem dd_Mo_reach_92 : decode bb_Mo_reach 92 = .ok (.if_icmp .ne (7), 3) := by decide +kernel
theorem dd_Mo_reach_95 : decode bb_Mo_reach 95 = .ok (.iconst 1, 1) := by decide +kernel
theorem dd_Mo_reach_96 : decode bb_Mo_reach 96 = .ok (.goto (4), 3) := by decide +kernel
theorem dd_Mo_reach_99 : decode bb_Mo_reach 99 = .ok (.iconst 0, 1) := by decide +kernel
theorem dd_Mo_reach_100 : decode bb_Mo_reach 100 = .ok (.istore 6, 2) := by decide +kernel
theorem dd_Mo_reach_102 : decode bb_Mo_reach 102 = .ok (.iload 6, 2) := by decide +kernel
theorem dd_Mo_reach_104 : decode bb_Mo_reach 104 = .ok (.ifCond .eq (17), 3) := by decide +kernel
theorem dd_Mo_reach_107 : decode bb_Mo_reach 107 = .ok (.iload_n 2, 1) := by decide +kernel
theorem dd_Mo_reach_108 : decode bb_Mo_reach 108 = .ok (.iconst 1, 1) := by decide +kernel
theorem dd_Mo_reach_109 : decode bb_Mo_reach 109 = .ok (.aload_n 0, 1) := by decide +kernel
theorem dd_Mo_reach_110 : decode bb_Mo_reach 110 = .ok (.getfield 33, 3) := by decide +kernel
theorem dd_Mo_reach_113 : decode bb_Mo_reach 113 = .ok (.iload 4, 2) := by decide +kernel
theorem dd_Mo_reach_115 : decode bb_Mo_reach 115 = .ok (.iaload, 1) := by decide +kernel
theorem dd_Mo_reach_116 : decode bb_Mo_reach 116 = .ok (.ishl, 1) := by decide +kernel
theorem dd_Mo_reach_117 : decode bb_Mo_reach 117 = .ok (.ior, 1) := by decide +kernel
theorem dd_Mo_reach_118 : decode bb_Mo_reach 118 = .ok (.goto (4), 3) := by decide +kernel
theorem dd_Mo_reach_121 : decode bb_Mo_reach 121 = .ok (.iload_n 2, 1) := by decide +kernel
theorem dd_Mo_reach_122 : decode bb_Mo_reach 122 = .ok (.istore_n 2, 1) := by decide +kernel
theorem dd_Mo_reach_123 : decode bb_Mo_reach 123 = .ok (.iinc 4 (1), 3) := by decide +kernel
theorem dd_Mo_reach_126 : decode bb_Mo_reach 126 = .ok (.goto (-106), 3) := by decide +kernel
theorem dd_Mo_reach_129 : decode bb_Mo_reach 129 = .ok (.iinc 3 (1), 3) := by decide +kernel
theorem dd_Mo_reach_132 : decode bb_Mo_reach 132 = .ok (.goto (-121), 3) := by decide +kernel
theorem dd_Mo_reach_135 : decode bb_Mo_reach 135 = .ok (.iload_n 2, 1) := by decide +kernel
theorem dd_Mo_reach_136 : decode bb_Mo_reach 136 = .ok (.ireturn, 1) := by decide +kernel
theorem dd_Mo_entitled_0 : decode bb_Mo_entitled 0 = .ok (.aload_n 0, 1) := by decide +kernel
theorem dd_Mo_entitled_1 : decode bb_Mo_entitled 1 = .ok (.getfield 29, 3) := by decide +kernel
theorem dd_Mo_entitled_4 : decode bb_Mo_entitled 4 = .ok (.iload_n 2, 1) := by decide +kernel
theorem dd_Mo_entitled_5 : decode bb_Mo_entitled 5 = .ok (.baload, 1) := by decide +kernel
theorem dd_Mo_entitled_6 : decode bb_Mo_entitled 6 = .ok (.ifCond .eq (21), 3) := by decide +kernel
theorem dd_Mo_entitled_9 : decode bb_Mo_entitled 9 = .ok (.iload_n 1, 1) := by decide +kernel
theorem dd_Mo_entitled_10 : decode bb_Mo_entitled 10 = .ok (.aload_n 0, 1) := by decide +kernel
theorem dd_Mo_entitled_11 : decode bb_Mo_entitled 11 = .ok (.getfield 36, 3) := by decide +kernel
theorem dd_Mo_entitled_14 : decode bb_Mo_entitled 14 = .ok (.iload_n 2, 1) := by decide +kernel
theorem dd_Mo_entitled_15 : decode bb_Mo_entitled 15 = .ok (.iaload, 1) := by decide +kernel
theorem dd_Mo_entitled_16 : decode bb_Mo_entitled 16 = .ok (.ishr, 1) := by decide +kernel
theorem dd_Mo_entitled_17 : decode bb_Mo_entitled 17 = .ok (.iconst 1, 1) := by decide +kernel
theorem dd_Mo_entitled_18 : decode bb_Mo_entitled 18 = .ok (.iand, 1) := by decide +kernel
theorem dd_Mo_entitled_19 : decode bb_Mo_entitled 19 = .ok (.iconst 1, 1) := by decide +kernel
theorem dd_Mo_entitled_20 : decode bb_Mo_entitled 20 = .ok (.if_icmp .ne (7), 3) := by decide +kernel
theorem dd_Mo_entitled_23 : decode bb_Mo_entitled 23 = .ok (.iconst 1, 1) := by decide +kernel
theorem dd_Mo_entitled_24 : decode bb_Mo_entitled 24 = .ok (.goto (4), 3) := by decide +kernel
theorem dd_Mo_entitled_27 : decode bb_Mo_entitled 27 = .ok (.iconst 0, 1) := by decide +kernel
theorem dd_Mo_entitled_28 : decode bb_Mo_entitled 28 = .ok (.ireturn, 1) := by decide +kernel
theorem dd_Mo_lacks_0 : decode bb_Mo_lacks 0 = .ok (.aload_n 0, 1) := by decide +kernel
theorem dd_Mo_lacks_1 : decode bb_Mo_lacks 1 = .ok (.getfield 54, 3) := by decide +kernel
theorem dd_Mo_lacks_4 : decode bb_Mo_lacks 4 = .ok (.bipush (60), 2) := by decide +kernel
theorem dd_Mo_lacks_6 : decode bb_Mo_lacks 6 = .ok (.iload_n 1, 1) := by decide +kernel
theorem dd_Mo_lacks_7 : decode bb_Mo_lacks 7 = .ok (.imul, 1) := by decide +kernel
theorem dd_Mo_lacks_8 : decode bb_Mo_lacks 8 = .ok (.iload_n 2, 1) := by decide +kernel
theorem dd_Mo_lacks_9 : decode bb_Mo_lacks 9 = .ok (.iadd, 1) := by decide +kernel
theorem dd_Mo_lacks_10 : decode bb_Mo_lacks 10 = .ok (.iaload, 1) := by decide +kernel
theorem dd_Mo_lacks_11 : decode bb_Mo_lacks 11 = .ok (.ifCond .eq (35), 3) := by decide +kernel
theorem dd_Mo_lacks_14 : decode bb_Mo_lacks 14 = .ok (.iconst 2, 1) := by decide +kernel
theorem dd_Mo_lacks_15 : decode bb_Mo_lacks 15 = .ok (.aload_n 0, 1) := by decide +kernel
theorem dd_Mo_lacks_16 : decode bb_Mo_lacks 16 = .ok (.getfield 180, 3) := by decide +kernel
theorem dd_Mo_lacks_19 : decode bb_Mo_lacks 19 = .ok (.imul, 1) := by decide +kernel
theorem dd_Mo_lacks_20 : decode bb_Mo_lacks 20 = .ok (.aload_n 0, 1) := by decide +kernel
theorem dd_Mo_lacks_21 : decode bb_Mo_lacks 21 = .ok (.getfield 60, 3) := by decide +kernel
theorem dd_Mo_lacks_24 : decode bb_Mo_lacks 24 = .ok (.bipush (60), 2) := by decide +kernel
theorem dd_Mo_lacks_26 : decode bb_Mo_lacks 26 = .ok (.iload_n 1, 1) := by decide +kernel
theorem dd_Mo_lacks_27 : decode bb_Mo_lacks 27 = .ok (.imul, 1) := by decide +kernel
theorem dd_Mo_lacks_28 : decode bb_Mo_lacks 28 = .ok (.iload_n 2, 1) := by decide +kernel
theorem dd_Mo_lacks_29 : decode bb_Mo_lacks 29 = .ok (.iadd, 1) := by decide +kernel
theorem dd_Mo_lacks_30 : decode bb_Mo_lacks 30 = .ok (.iaload, 1) := by decide +kernel
theorem dd_Mo_lacks_31 : decode bb_Mo_lacks 31 = .ok (.aload_n 0, 1) := by decide +kernel
theorem dd_Mo_lacks_32 : decode bb_Mo_lacks 32 = .ok (.getfield 63, 3) := by decide +kernel
theorem dd_Mo_lacks_35 : decode bb_Mo_lacks 35 = .ok (.bipush (60), 2) := by decide +kernel
theorem dd_Mo_lacks_37 : decode bb_Mo_lacks 37 = .ok (.iload_n 1, 1) := by decide +kernel
theorem dd_Mo_lacks_38 : decode bb_Mo_lacks 38 = .ok (.imul, 1) := by decide +kernel
theorem dd_Mo_lacks_39 : decode bb_Mo_lacks 39 = .ok (.iload_n 2, 1) := by decide +kernel
theorem dd_Mo_lacks_40 : decode bb_Mo_lacks 40 = .ok (.iadd, 1) := by decide +kernel
theorem dd_Mo_lacks_41 : decode bb_Mo_lacks 41 = .ok (.iaload, 1) := by decide +kernel
theorem dd_Mo_lacks_42 : decode bb_Mo_lacks 42 = .ok (.iadd, 1) := by decide +kernel
theorem dd_Mo_lacks_43 : decode bb_Mo_lacks 43 = .ok (.if_icmp .lt (7), 3) := by decide +kernel
theorem dd_Mo_lacks_46 : decode bb_Mo_lacks 46 = .ok (.iconst 1, 1) := by decide +kernel
theorem dd_Mo_lacks_47 : decode bb_Mo_lacks 47 = .ok (.goto (4), 3) := by decide +kernel
theorem dd_Mo_lacks_50 : decode bb_Mo_lacks 50 = .ok (.iconst 0, 1) := by decide +kernel
theorem dd_Mo_lacks_51 : decode bb_Mo_lacks 51 = .ok (.ireturn, 1) := by decide +kernel
theorem dd_Mo_isGood_0 : decode bb_Mo_isGood 0 = .ok (.iload_n 1, 1) := by decide +kernel
theorem dd_Mo_isGood_1 : decode bb_Mo_isGood 1 = .ok (.ifCond .lt (33), 3) := by decide +kernel
theorem dd_Mo_isGood_4 : decode bb_Mo_isGood 4 = .ok (.iload_n 1, 1) := by decide +kernel
theorem dd_Mo_isGood_5 : decode bb_Mo_isGood 5 = .ok (.aload_n 0, 1) := by decide +kernel
theorem dd_Mo_isGood_6 : decode bb_Mo_isGood 6 = .ok (.getfield 112, 3) := by decide +kernel
theorem dd_Mo_isGood_9 : decode bb_Mo_isGood 9 = .ok (.if_icmp .ge (25), 3) := by decide +kernel
theorem dd_Mo_isGood_12 : decode bb_Mo_isGood 12 = .ok (.aload_n 0, 1) := by decide +kernel
theorem dd_Mo_isGood_13 : decode bb_Mo_isGood 13 = .ok (.getfield 180, 3) := by decide +kernel
theorem dd_Mo_isGood_16 : decode bb_Mo_isGood 16 = .ok (.aload_n 0, 1) := by decide +kernel
theorem dd_Mo_isGood_17 : decode bb_Mo_isGood 17 = .ok (.getfield 22, 3) := by decide +kernel
theorem dd_Mo_isGood_20 : decode bb_Mo_isGood 20 = .ok (.iload_n 1, 1) := by decide +kernel
theorem dd_Mo_isGood_21 : decode bb_Mo_isGood 21 = .ok (.iaload, 1) := by decide +kernel
theorem dd_Mo_isGood_22 : decode bb_Mo_isGood 22 = .ok (.aload_n 0, 1) := by decide +kernel
theorem dd_Mo_isGood_23 : decode bb_Mo_isGood 23 = .ok (.getfield 108, 3) := by decide +kernel
theorem dd_Mo_isGood_26 : decode bb_Mo_isGood 26 = .ok (.iadd, 1) := by decide +kernel
theorem dd_Mo_isGood_27 : decode bb_Mo_isGood 27 = .ok (.if_icmp .ge (7), 3) := by decide +kernel
theorem dd_Mo_isGood_30 : decode bb_Mo_isGood 30 = .ok (.iconst 1, 1) := by decide +kernel
theorem dd_Mo_isGood_31 : decode bb_Mo_isGood 31 = .ok (.goto (4), 3) := by decide +kernel
theorem dd_Mo_isGood_34 : decode bb_Mo_isGood 34 = .ok (.iconst 0, 1) := by decide +kernel
theorem dd_Mo_isGood_35 : decode bb_Mo_isGood 35 = .ok (.ireturn, 1) := by decide +kernel
theorem dd_Mo_issue_0 : decode bb_Mo_issue 0 = .ok (.bipush (60), 2) := by decide +kernel
theorem dd_Mo_issue_2 : decode bb_Mo_issue 2 = .ok (.iload_n 1, 1) := by decide +kernel
theorem dd_Mo_issue_3 : decode bb_Mo_issue 3 = .ok (.imul, 1) := by decide +kernel
theorem dd_Mo_issue_4 : decode bb_Mo_issue 4 = .ok (.iload_n 2, 1) := by decide +kernel
theorem dd_Mo_issue_5 : decode bb_Mo_issue 5 = .ok (.iadd, 1) := by decide +kernel
theorem dd_Mo_issue_6 : decode bb_Mo_issue 6 = .ok (.istore_n 3, 1) := by decide +kernel
theorem dd_Mo_issue_7 : decode bb_Mo_issue 7 = .ok (.aload_n 0, 1) := by decide +kernel
theorem dd_Mo_issue_8 : decode bb_Mo_issue 8 = .ok (.getfield 22, 3) := by decide +kernel
theorem dd_Mo_issue_11 : decode bb_Mo_issue 11 = .ok (.aload_n 0, 1) := by decide +kernel
theorem dd_Mo_issue_12 : decode bb_Mo_issue 12 = .ok (.getfield 183, 3) := by decide +kernel
theorem dd_Mo_issue_15 : decode bb_Mo_issue 15 = .ok (.iaload, 1) := by decide +kernel
theorem dd_Mo_issue_16 : decode bb_Mo_issue 16 = .ok (.aload_n 0, 1) := by decide +kernel
theorem dd_Mo_issue_17 : decode bb_Mo_issue 17 = .ok (.getfield 108, 3) := by decide +kernel
theorem dd_Mo_issue_20 : decode bb_Mo_issue 20 = .ok (.iadd, 1) := by decide +kernel
theorem dd_Mo_issue_21 : decode bb_Mo_issue 21 = .ok (.istore 4, 2) := by decide +kernel
theorem dd_Mo_issue_23 : decode bb_Mo_issue 23 = .ok (.aload_n 0, 1) := by decide +kernel
theorem dd_Mo_issue_24 : decode bb_Mo_issue 24 = .ok (.dup, 1) := by decide +kernel
theorem dd_Mo_issue_25 : decode bb_Mo_issue 25 = .ok (.getfield 186, 3) := by decide +kernel
theorem dd_Mo_issue_28 : decode bb_Mo_issue 28 = .ok (.iconst 1, 1) := by decide +kernel
theorem dd_Mo_issue_29 : decode bb_Mo_issue 29 = .ok (.iadd, 1) := by decide +kernel
theorem dd_Mo_issue_30 : decode bb_Mo_issue 30 = .ok (.putfield 186, 3) := by decide +kernel
theorem dd_Mo_issue_33 : decode bb_Mo_issue 33 = .ok (.aload_n 0, 1) := by decide +kernel
theorem dd_Mo_issue_34 : decode bb_Mo_issue 34 = .ok (.getfield 54, 3) := by decide +kernel
theorem dd_Mo_issue_37 : decode bb_Mo_issue 37 = .ok (.iload_n 3, 1) := by decide +kernel
theorem dd_Mo_issue_38 : decode bb_Mo_issue 38 = .ok (.aload_n 0, 1) := by decide +kernel
theorem dd_Mo_issue_39 : decode bb_Mo_issue 39 = .ok (.getfield 186, 3) := by decide +kernel
theorem dd_Mo_issue_42 : decode bb_Mo_issue 42 = .ok (.iastore, 1) := by decide +kernel
theorem dd_Mo_issue_43 : decode bb_Mo_issue 43 = .ok (.aload_n 0, 1) := by decide +kernel
theorem dd_Mo_issue_44 : decode bb_Mo_issue 44 = .ok (.getfield 57, 3) := by decide +kernel
theorem dd_Mo_issue_47 : decode bb_Mo_issue 47 = .ok (.iload_n 3, 1) := by decide +kernel
theorem dd_Mo_issue_48 : decode bb_Mo_issue 48 = .ok (.aload_n 0, 1) := by decide +kernel
theorem dd_Mo_issue_49 : decode bb_Mo_issue 49 = .ok (.getfield 183, 3) := by decide +kernel
theorem dd_Mo_issue_52 : decode bb_Mo_issue 52 = .ok (.iastore, 1) := by decide +kernel
theorem dd_Mo_issue_53 : decode bb_Mo_issue 53 = .ok (.aload_n 0, 1) := by decide +kernel
theorem dd_Mo_issue_54 : decode bb_Mo_issue 54 = .ok (.getfield 60, 3) := by decide +kernel
theorem dd_Mo_issue_57 : decode bb_Mo_issue 57 = .ok (.iload_n 3, 1) := by decide +kernel
theorem dd_Mo_issue_58 : decode bb_Mo_issue 58 = .ok (.aload_n 0, 1) := by decide +kernel
theorem dd_Mo_issue_59 : decode bb_Mo_issue 59 = .ok (.getfield 180, 3) := by decide +kernel
theorem dd_Mo_issue_62 : decode bb_Mo_issue 62 = .ok (.iastore, 1) := by decide +kernel
theorem dd_Mo_issue_63 : decode bb_Mo_issue 63 = .ok (.aload_n 0, 1) := by decide +kernel
theorem dd_Mo_issue_64 : decode bb_Mo_issue 64 = .ok (.getfield 63, 3) := by decide +kernel
theorem dd_Mo_issue_67 : decode bb_Mo_issue 67 = .ok (.iload_n 3, 1) := by decide +kernel
theorem dd_Mo_issue_68 : decode bb_Mo_issue 68 = .ok (.aload_n 0, 1) := by decide +kernel
theorem dd_Mo_issue_69 : decode bb_Mo_issue 69 = .ok (.getfield 180, 3) := by decide +kernel
theorem dd_Mo_issue_72 : decode bb_Mo_issue 72 = .ok (.aload_n 0, 1) := by decide +kernel
theorem dd_Mo_issue_73 : decode bb_Mo_issue 73 = .ok (.getfield 42, 3) := by decide +kernel
theorem dd_Mo_issue_76 : decode bb_Mo_issue 76 = .ok (.iload_n 2, 1) := by decide +kernel
theorem dd_Mo_issue_77 : decode bb_Mo_issue 77 = .ok (.iaload, 1) := by decide +kernel
theorem dd_Mo_issue_78 : decode bb_Mo_issue 78 = .ok (.iadd, 1) := by decide +kernel
theorem dd_Mo_issue_79 : decode bb_Mo_issue 79 = .ok (.iload 4, 2) := by decide +kernel
theorem dd_Mo_issue_81 : decode bb_Mo_issue 81 = .ok (.if_icmp .ge (17), 3) := by decide +kernel
theorem dd_Mo_issue_84 : decode bb_Mo_issue 84 = .ok (.aload_n 0, 1) := by decide +kernel
theorem dd_Mo_issue_85 : decode bb_Mo_issue 85 = .ok (.getfield 180, 3) := by decide +kernel
theorem dd_Mo_issue_88 : decode bb_Mo_issue 88 = .ok (.aload_n 0, 1) := by decide +kernel
theorem dd_Mo_issue_89 : decode bb_Mo_issue 89 = .ok (.getfield 42, 3) := by decide +kernel
theorem dd_Mo_issue_92 : decode bb_Mo_issue 92 = .ok (.iload_n 2, 1) := by decide +kernel
theorem dd_Mo_issue_93 : decode bb_Mo_issue 93 = .ok (.iaload, 1) := by decide +kernel
theorem dd_Mo_issue_94 : decode bb_Mo_issue 94 = .ok (.iadd, 1) := by decide +kernel
theorem dd_Mo_issue_95 : decode bb_Mo_issue 95 = .ok (.goto (5), 3) := by decide +kernel
theorem dd_Mo_issue_98 : decode bb_Mo_issue 98 = .ok (.iload 4, 2) := by decide +kernel
theorem dd_Mo_issue_100 : decode bb_Mo_issue 100 = .ok (.iastore, 1) := by decide +kernel
theorem dd_Mo_issue_101 : decode bb_Mo_issue 101 = .ok (.return_, 1) := by decide +kernel
theorem dd_Mo_fetch_0 : decode bb_Mo_fetch 0 = .ok (.iload_n 1, 1) := by decide +kernel
theorem dd_Mo_fetch_1 : decode bb_Mo_fetch 1 = .ok (.iconst 0, 1) := by decide +kernel
theorem dd_Mo_fetch_2 : decode bb_Mo_fetch 2 = .ok (.aload_n 0, 1) := by decide +kernel
theorem dd_Mo_fetch_3 : decode bb_Mo_fetch 3 = .ok (.getfield 173, 3) := by decide +kernel
theorem dd_Mo_fetch_6 : decode bb_Mo_fetch 6 = .ok (.iconst 1, 1) := by decide +kernel
theorem dd_Mo_fetch_7 : decode bb_Mo_fetch 7 = .ok (.isub, 1) := by decide +kernel
theorem dd_Mo_fetch_8 : decode bb_Mo_fetch 8 = .ok (.invokestatic 118, 3) := by decide +kernel
theorem dd_Mo_fetch_11 : decode bb_Mo_fetch 11 = .ok (.ifCond .eq (7), 3) := by decide +kernel
theorem dd_Mo_fetch_14 : decode bb_Mo_fetch 14 = .ok (.sipush (-1001), 3) := by decide +kernel
theorem dd_Mo_fetch_17 : decode bb_Mo_fetch 17 = .ok (.ireturn, 1) := by decide +kernel
theorem dd_Mo_fetch_18 : decode bb_Mo_fetch 18 = .ok (.aload_n 0, 1) := by decide +kernel
theorem dd_Mo_fetch_19 : decode bb_Mo_fetch 19 = .ok (.iload_n 1, 1) := by decide +kernel
theorem dd_Mo_fetch_20 : decode bb_Mo_fetch 20 = .ok (.iload_n 2, 1) := by decide +kernel
theorem dd_Mo_fetch_21 : decode bb_Mo_fetch 21 = .ok (.invokevirtual 220, 3) := by decide +kernel
theorem dd_Mo_fetch_24 : decode bb_Mo_fetch 24 = .ok (.aload_n 0, 1) := by decide +kernel
theorem dd_Mo_fetch_25 : decode bb_Mo_fetch 25 = .ok (.iload_n 1, 1) := by decide +kernel
theorem dd_Mo_fetch_26 : decode bb_Mo_fetch 26 = .ok (.invokevirtual 223, 3) := by decide +kernel
theorem dd_Mo_fetch_29 : decode bb_Mo_fetch 29 = .ok (.ireturn, 1) := by decide +kernel
theorem dd_Mo_respond_0 : decode bb_Mo_respond 0 = .ok (.aload_n 0, 1) := by decide +kernel
theorem dd_Mo_respond_1 : decode bb_Mo_respond 1 = .ok (.iconst 0, 1) := by decide +kernel
theorem dd_Mo_respond_2 : decode bb_Mo_respond 2 = .ok (.putfield 205, 3) := by decide +kernel
theorem dd_Mo_respond_5 : decode bb_Mo_respond 5 = .ok (.iconst 0, 1) := by decide +kernel
theorem dd_Mo_respond_6 : decode bb_Mo_respond 6 = .ok (.istore_n 3, 1) := by decide +kernel
theorem dd_Mo_respond_7 : decode bb_Mo_respond 7 = .ok (.iload_n 3, 1) := by decide +kernel
theorem dd_Mo_respond_8 : decode bb_Mo_respond 8 = .ok (.aload_n 0, 1) := by decide +kernel
theorem dd_Mo_respond_9 : decode bb_Mo_respond 9 = .ok (.getfield 167, 3) := by decide +kernel
theorem dd_Mo_respond_12 : decode bb_Mo_respond 12 = .ok (.if_icmp .ge (74), 3) := by decide +kernel
theorem dd_Mo_respond_15 : decode bb_Mo_respond 15 = .ok (.bipush (60), 2) := by decide +kernel
theorem dd_Mo_respond_17 : decode bb_Mo_respond 17 = .ok (.iload_n 1, 1) := by decide +kernel
theorem dd_Mo_respond_18 : decode bb_Mo_respond 18 = .ok (.imul, 1) := by decide +kernel
theorem dd_Mo_respond_19 : decode bb_Mo_respond 19 = .ok (.iload_n 3, 1) := by decide +kernel
theorem dd_Mo_respond_20 : decode bb_Mo_respond 20 = .ok (.iadd, 1) := by decide +kernel
theorem dd_Mo_respond_21 : decode bb_Mo_respond 21 = .ok (.istore 4, 2) := by decide +kernel
theorem dd_Mo_respond_23 : decode bb_Mo_respond 23 = .ok (.aload_n 0, 1) := by decide +kernel
theorem dd_Mo_respond_24 : decode bb_Mo_respond 24 = .ok (.getfield 54, 3) := by decide +kernel
theorem dd_Mo_respond_27 : decode bb_Mo_respond 27 = .ok (.iload 4, 2) := by decide +kernel
theorem dd_Mo_respond_29 : decode bb_Mo_respond 29 = .ok (.iaload, 1) := by decide +kernel
theorem dd_Mo_respond_30 : decode bb_Mo_respond 30 = .ok (.ifCond .le (50), 3) := by decide +kernel
theorem dd_Mo_respond_33 : decode bb_Mo_respond 33 = .ok (.aload_n 0, 1) := by decide +kernel
theorem dd_Mo_respond_34 : decode bb_Mo_respond 34 = .ok (.getfield 39, 3) := by decide +kernel
theorem dd_Mo_respond_37 : decode bb_Mo_respond 37 = .ok (.iload_n 3, 1) := by decide +kernel
theorem dd_Mo_respond_38 : decode bb_Mo_respond 38 = .ok (.iaload, 1) := by decide +kernel
theorem dd_Mo_respond_39 : decode bb_Mo_respond 39 = .ok (.iload_n 2, 1) := by decide +kernel
theorem dd_Mo_respond_40 : decode bb_Mo_respond 40 = .ok (.iconst (-1), 1) := by decide +kernel
theorem dd_Mo_respond_41 : decode bb_Mo_respond 41 = .ok (.ixor, 1) := by decide +kernel
theorem dd_Mo_respond_42 : decode bb_Mo_respond 42 = .ok (.iand, 1) := by decide +kernel
theorem dd_Mo_respond_43 : decode bb_Mo_respond 43 = .ok (.ifCond .ne (37), 3) := by decide +kernel
theorem dd_Mo_respond_46 : decode bb_Mo_respond 46 = .ok (.aload_n 0, 1) := by decide +kernel
theorem dd_Mo_respond_47 : decode bb_Mo_respond 47 = .ok (.getfield 63, 3) := by decide +kernel
theorem dd_Mo_respond_50 : decode bb_Mo_respond 50 = .ok (.iload 4, 2) := by decide +kernel
theorem dd_Mo_respond_52 : decode bb_Mo_respond 52 = .ok (.iaload, 1) := by decide +kernel
theorem dd_Mo_respond_53 : decode bb_Mo_respond 53 = .ok (.aload_n 0, 1) := by decide +kernel
theorem dd_Mo_respond_54 : decode bb_Mo_respond 54 = .ok (.getfield 180, 3) := by decide +kernel
theorem dd_Mo_respond_57 : decode bb_Mo_respond 57 = .ok (.if_icmp .le (23), 3) := by decide +kernel
theorem dd_Mo_respond_60 : decode bb_Mo_respond 60 = .ok (.aload_n 0, 1) := by decide +kernel
theorem dd_Mo_respond_61 : decode bb_Mo_respond 61 = .ok (.getfield 102, 3) := by decide +kernel
theorem dd_Mo_respond_64 : decode bb_Mo_respond 64 = .ok (.aload_n 0, 1) := by decide +kernel
theorem dd_Mo_respond_65 : decode bb_Mo_respond 65 = .ok (.getfield 205, 3) := by decide +kernel
theorem dd_Mo_respond_68 : decode bb_Mo_respond 68 = .ok (.iload_n 3, 1) := by decide +kernel
theorem dd_Mo_respond_69 : decode bb_Mo_respond 69 = .ok (.iastore, 1) := by decide +kernel
theorem dd_Mo_respond_70 : decode bb_Mo_respond 70 = .ok (.aload_n 0, 1) := by decide +kernel
theorem dd_Mo_respond_71 : decode bb_Mo_respond 71 = .ok (.dup, 1) := by decide +kernel
theorem dd_Mo_respond_72 : decode bb_Mo_respond 72 = .ok (.getfield 205, 3) := by decide +kernel
theorem dd_Mo_respond_75 : decode bb_Mo_respond 75 = .ok (.iconst 1, 1) := by decide +kernel
theorem dd_Mo_respond_76 : decode bb_Mo_respond 76 = .ok (.iadd, 1) := by decide +kernel
theorem dd_Mo_respond_77 : decode bb_Mo_respond 77 = .ok (.putfield 205, 3) := by decide +kernel
theorem dd_Mo_respond_80 : decode bb_Mo_respond 80 = .ok (.iinc 3 (1), 3) := by decide +kernel
theorem dd_Mo_respond_83 : decode bb_Mo_respond 83 = .ok (.goto (-76), 3) := by decide +kernel
theorem dd_Mo_respond_86 : decode bb_Mo_respond 86 = .ok (.return_, 1) := by decide +kernel
theorem dd_Mo_show_0 : decode bb_Mo_show 0 = .ok (.aload_n 0, 1) := by decide +kernel
theorem dd_Mo_show_1 : decode bb_Mo_show 1 = .ok (.aload_n 0, 1) := by decide +kernel
theorem dd_Mo_show_2 : decode bb_Mo_show 2 = .ok (.getfield 205, 3) := by decide +kernel
theorem dd_Mo_show_5 : decode bb_Mo_show 5 = .ok (.putfield 208, 3) := by decide +kernel
theorem dd_Mo_show_8 : decode bb_Mo_show 8 = .ok (.iconst 0, 1) := by decide +kernel
theorem dd_Mo_show_9 : decode bb_Mo_show 9 = .ok (.istore_n 2, 1) := by decide +kernel
theorem dd_Mo_show_10 : decode bb_Mo_show 10 = .ok (.iload_n 2, 1) := by decide +kernel
theorem dd_Mo_show_11 : decode bb_Mo_show 11 = .ok (.aload_n 0, 1) := by decide +kernel
theorem dd_Mo_show_12 : decode bb_Mo_show 12 = .ok (.getfield 205, 3) := by decide +kernel
theorem dd_Mo_show_15 : decode bb_Mo_show 15 = .ok (.if_icmp .ge (99), 3) := by decide +kernel
theorem dd_Mo_show_18 : decode bb_Mo_show 18 = .ok (.bipush (60), 2) := by decide +kernel
theorem dd_Mo_show_20 : decode bb_Mo_show 20 = .ok (.iload_n 1, 1) := by decide +kernel
theorem dd_Mo_show_21 : decode bb_Mo_show 21 = .ok (.imul, 1) := by decide +kernel
theorem dd_Mo_show_22 : decode bb_Mo_show 22 = .ok (.aload_n 0, 1) := by decide +kernel
theorem dd_Mo_show_23 : decode bb_Mo_show 23 = .ok (.getfield 102, 3) := by decide +kernel
theorem dd_Mo_show_26 : decode bb_Mo_show 26 = .ok (.iload_n 2, 1) := by decide +kernel
theorem dd_Mo_show_27 : decode bb_Mo_show 27 = .ok (.iaload, 1) := by decide +kernel
theorem dd_Mo_show_28 : decode bb_Mo_show 28 = .ok (.iadd, 1) := by decide +kernel
theorem dd_Mo_show_29 : decode bb_Mo_show 29 = .ok (.istore_n 3, 1) := by decide +kernel
theorem dd_Mo_show_30 : decode bb_Mo_show 30 = .ok (.aload_n 0, 1) := by decide +kernel
theorem dd_Mo_show_31 : decode bb_Mo_show 31 = .ok (.getfield 96, 3) := by decide +kernel
theorem dd_Mo_show_34 : decode bb_Mo_show 34 = .ok (.iconst 5, 1) := by decide +kernel
theorem dd_Mo_show_35 : decode bb_Mo_show 35 = .ok (.iload_n 2, 1) := by decide +kernel
theorem dd_Mo_show_36 : decode bb_Mo_show 36 = .ok (.imul, 1) := by decide +kernel
theorem dd_Mo_show_37 : decode bb_Mo_show 37 = .ok (.aload_n 0, 1) := by decide +kernel
theorem dd_Mo_show_38 : decode bb_Mo_show 38 = .ok (.getfield 102, 3) := by decide +kernel
theorem dd_Mo_show_41 : decode bb_Mo_show 41 = .ok (.iload_n 2, 1) := by decide +kernel
theorem dd_Mo_show_42 : decode bb_Mo_show 42 = .ok (.iaload, 1) := by decide +kernel
theorem dd_Mo_show_43 : decode bb_Mo_show 43 = .ok (.iastore, 1) := by decide +kernel
theorem dd_Mo_show_44 : decode bb_Mo_show 44 = .ok (.aload_n 0, 1) := by decide +kernel
theorem dd_Mo_show_45 : decode bb_Mo_show 45 = .ok (.getfield 96, 3) := by decide +kernel
theorem dd_Mo_show_48 : decode bb_Mo_show 48 = .ok (.iconst 5, 1) := by decide +kernel
theorem dd_Mo_show_49 : decode bb_Mo_show 49 = .ok (.iload_n 2, 1) := by decide +kernel
theorem dd_Mo_show_50 : decode bb_Mo_show 50 = .ok (.imul, 1) := by decide +kernel
theorem dd_Mo_show_51 : decode bb_Mo_show 51 = .ok (.iconst 1, 1) := by decide +kernel
theorem dd_Mo_show_52 : decode bb_Mo_show 52 = .ok (.iadd, 1) := by decide +kernel
theorem dd_Mo_show_53 : decode bb_Mo_show 53 = .ok (.aload_n 0, 1) := by decide +kernel
theorem dd_Mo_show_54 : decode bb_Mo_show 54 = .ok (.getfield 54, 3) := by decide +kernel
theorem dd_Mo_show_57 : decode bb_Mo_show 57 = .ok (.iload_n 3, 1) := by decide +kernel
theorem dd_Mo_show_58 : decode bb_Mo_show 58 = .ok (.iaload, 1) := by decide +kernel
theorem dd_Mo_show_59 : decode bb_Mo_show 59 = .ok (.iastore, 1) := by decide +kernel
theorem dd_Mo_show_60 : decode bb_Mo_show 60 = .ok (.aload_n 0, 1) := by decide +kernel
theorem dd_Mo_show_61 : decode bb_Mo_show 61 = .ok (.getfield 96, 3) := by decide +kernel
theorem dd_Mo_show_64 : decode bb_Mo_show 64 = .ok (.iconst 5, 1) := by decide +kernel
theorem dd_Mo_show_65 : decode bb_Mo_show 65 = .ok (.iload_n 2, 1) := by decide +kernel
theorem dd_Mo_show_66 : decode bb_Mo_show 66 = .ok (.imul, 1) := by decide +kernel
theorem dd_Mo_show_67 : decode bb_Mo_show 67 = .ok (.iconst 2, 1) := by decide +kernel
theorem dd_Mo_show_68 : decode bb_Mo_show 68 = .ok (.iadd, 1) := by decide +kernel
theorem dd_Mo_show_69 : decode bb_Mo_show 69 = .ok (.aload_n 0, 1) := by decide +kernel
theorem dd_Mo_show_70 : decode bb_Mo_show 70 = .ok (.getfield 57, 3) := by decide +kernel
theorem dd_Mo_show_73 : decode bb_Mo_show 73 = .ok (.iload_n 3, 1) := by decide +kernel
theorem dd_Mo_show_74 : decode bb_Mo_show 74 = .ok (.iaload, 1) := by decide +kernel
theorem dd_Mo_show_75 : decode bb_Mo_show 75 = .ok (.iastore, 1) := by decide +kernel
theorem dd_Mo_show_76 : decode bb_Mo_show 76 = .ok (.aload_n 0, 1) := by decide +kernel
theorem dd_Mo_show_77 : decode bb_Mo_show 77 = .ok (.getfield 96, 3) := by decide +kernel
theorem dd_Mo_show_80 : decode bb_Mo_show 80 = .ok (.iconst 5, 1) := by decide +kernel
theorem dd_Mo_show_81 : decode bb_Mo_show 81 = .ok (.iload_n 2, 1) := by decide +kernel
theorem dd_Mo_show_82 : decode bb_Mo_show 82 = .ok (.imul, 1) := by decide +kernel
theorem dd_Mo_show_83 : decode bb_Mo_show 83 = .ok (.iconst 3, 1) := by decide +kernel
theorem dd_Mo_show_84 : decode bb_Mo_show 84 = .ok (.iadd, 1) := by decide +kernel
theorem dd_Mo_show_85 : decode bb_Mo_show 85 = .ok (.aload_n 0, 1) := by decide +kernel
theorem dd_Mo_show_86 : decode bb_Mo_show 86 = .ok (.getfield 60, 3) := by decide +kernel
theorem dd_Mo_show_89 : decode bb_Mo_show 89 = .ok (.iload_n 3, 1) := by decide +kernel
theorem dd_Mo_show_90 : decode bb_Mo_show 90 = .ok (.iaload, 1) := by decide +kernel
theorem dd_Mo_show_91 : decode bb_Mo_show 91 = .ok (.iastore, 1) := by decide +kernel
theorem dd_Mo_show_92 : decode bb_Mo_show 92 = .ok (.aload_n 0, 1) := by decide +kernel
theorem dd_Mo_show_93 : decode bb_Mo_show 93 = .ok (.getfield 96, 3) := by decide +kernel
theorem dd_Mo_show_96 : decode bb_Mo_show 96 = .ok (.iconst 5, 1) := by decide +kernel
theorem dd_Mo_show_97 : decode bb_Mo_show 97 = .ok (.iload_n 2, 1) := by decide +kernel
theorem dd_Mo_show_98 : decode bb_Mo_show 98 = .ok (.imul, 1) := by decide +kernel
theorem dd_Mo_show_99 : decode bb_Mo_show 99 = .ok (.iconst 4, 1) := by decide +kernel
theorem dd_Mo_show_100 : decode bb_Mo_show 100 = .ok (.iadd, 1) := by decide +kernel
theorem dd_Mo_show_101 : decode bb_Mo_show 101 = .ok (.aload_n 0, 1) := by decide +kernel
theorem dd_Mo_show_102 : decode bb_Mo_show 102 = .ok (.getfield 63, 3) := by decide +kernel
theorem dd_Mo_show_105 : decode bb_Mo_show 105 = .ok (.iload_n 3, 1) := by decide +kernel
theorem dd_Mo_show_106 : decode bb_Mo_show 106 = .ok (.iaload, 1) := by decide +kernel
theorem dd_Mo_show_107 : decode bb_Mo_show 107 = .ok (.iastore, 1) := by decide +kernel
theorem dd_Mo_show_108 : decode bb_Mo_show 108 = .ok (.iinc 2 (1), 3) := by decide +kernel
theorem dd_Mo_show_111 : decode bb_Mo_show 111 = .ok (.goto (-101), 3) := by decide +kernel
theorem dd_Mo_show_114 : decode bb_Mo_show 114 = .ok (.aload_n 0, 1) := by decide +kernel
theorem dd_Mo_show_115 : decode bb_Mo_show 115 = .ok (.aload_n 0, 1) := by decide +kernel
theorem dd_Mo_show_116 : decode bb_Mo_show 116 = .ok (.getfield 205, 3) := by decide +kernel
theorem dd_Mo_show_119 : decode bb_Mo_show 119 = .ok (.ifCond .le (12), 3) := by decide +kernel
theorem dd_Mo_show_122 : decode bb_Mo_show 122 = .ok (.aload_n 0, 1) := by decide +kernel
theorem dd_Mo_show_123 : decode bb_Mo_show 123 = .ok (.getfield 69, 3) := by decide +kernel
theorem dd_Mo_show_126 : decode bb_Mo_show 126 = .ok (.iload_n 1, 1) := by decide +kernel
theorem dd_Mo_show_127 : decode bb_Mo_show 127 = .ok (.iaload, 1) := by decide +kernel
theorem dd_Mo_show_128 : decode bb_Mo_show 128 = .ok (.goto (4), 3) := by decide +kernel
theorem dd_Mo_show_131 : decode bb_Mo_show 131 = .ok (.iconst 0, 1) := by decide +kernel
theorem dd_Mo_show_132 : decode bb_Mo_show 132 = .ok (.putfield 211, 3) := by decide +kernel
theorem dd_Mo_show_135 : decode bb_Mo_show 135 = .ok (.iconst 0, 1) := by decide +kernel
theorem dd_Mo_show_136 : decode bb_Mo_show 136 = .ok (.istore_n 2, 1) := by decide +kernel
theorem dd_Mo_show_137 : decode bb_Mo_show 137 = .ok (.iload_n 2, 1) := by decide +kernel
theorem dd_Mo_show_138 : decode bb_Mo_show 138 = .ok (.aload_n 0, 1) := by decide +kernel
theorem dd_Mo_show_139 : decode bb_Mo_show 139 = .ok (.getfield 211, 3) := by decide +kernel
theorem dd_Mo_show_142 : decode bb_Mo_show 142 = .ok (.if_icmp .ge (25), 3) := by decide +kernel
theorem dd_Mo_show_145 : decode bb_Mo_show 145 = .ok (.aload_n 0, 1) := by decide +kernel
theorem dd_Mo_show_146 : decode bb_Mo_show 146 = .ok (.getfield 99, 3) := by decide +kernel
theorem dd_Mo_show_149 : decode bb_Mo_show 149 = .ok (.iload_n 2, 1) := by decide +kernel
theorem dd_Mo_show_150 : decode bb_Mo_show 150 = .ok (.aload_n 0, 1) := by decide +kernel
theorem dd_Mo_show_151 : decode bb_Mo_show 151 = .ok (.getfield 66, 3) := by decide +kernel
theorem dd_Mo_show_154 : decode bb_Mo_show 154 = .ok (.iconst 4, 1) := by decide +kernel
theorem dd_Mo_show_155 : decode bb_Mo_show 155 = .ok (.iload_n 1, 1) := by decide +kernel
theorem dd_Mo_show_156 : decode bb_Mo_show 156 = .ok (.imul, 1) := by decide +kernel
theorem dd_Mo_show_157 : decode bb_Mo_show 157 = .ok (.iload_n 2, 1) := by decide +kernel
theorem dd_Mo_show_158 : decode bb_Mo_show 158 = .ok (.iadd, 1) := by decide +kernel
theorem dd_Mo_show_159 : decode bb_Mo_show 159 = .ok (.iaload, 1) := by decide +kernel
theorem dd_Mo_show_160 : decode bb_Mo_show 160 = .ok (.iastore, 1) := by decide +kernel
theorem dd_Mo_show_161 : decode bb_Mo_show 161 = .ok (.iinc 2 (1), 3) := by decide +kernel
theorem dd_Mo_show_164 : decode bb_Mo_show 164 = .ok (.goto (-27), 3) := by decide +kernel
theorem dd_Mo_show_167 : decode bb_Mo_show 167 = .ok (.aload_n 0, 1) := by decide +kernel
theorem dd_Mo_show_168 : decode bb_Mo_show 168 = .ok (.aload_n 0, 1) := by decide +kernel
theorem dd_Mo_show_169 : decode bb_Mo_show 169 = .ok (.iload_n 1, 1) := by decide +kernel
theorem dd_Mo_show_170 : decode bb_Mo_show 170 = .ok (.invokevirtual 214, 3) := by decide +kernel
theorem dd_Mo_show_173 : decode bb_Mo_show 173 = .ok (.putfield 217, 3) := by decide +kernel
theorem dd_Mo_show_176 : decode bb_Mo_show 176 = .ok (.aload_n 0, 1) := by decide +kernel
theorem dd_Mo_show_177 : decode bb_Mo_show 177 = .ok (.getfield 205, 3) := by decide +kernel
theorem dd_Mo_show_180 : decode bb_Mo_show 180 = .ok (.ifCond .le (10), 3) := by decide +kernel
theorem dd_Mo_show_183 : decode bb_Mo_show 183 = .ok (.aload_n 0, 1) := by decide +kernel
theorem dd_Mo_show_184 : decode bb_Mo_show 184 = .ok (.getfield 205, 3) := by decide +kernel
theorem dd_Mo_show_187 : decode bb_Mo_show 187 = .ok (.goto (6), 3) := by decide +kernel
theorem dd_Mo_show_190 : decode bb_Mo_show 190 = .ok (.sipush (-1004), 3) := by decide +kernel
theorem dd_Mo_show_193 : decode bb_Mo_show 193 = .ok (.ireturn, 1) := by decide +kernel
theorem dd_Mo_foreignFor_0 : decode bb_Mo_foreignFor 0 = .ok (.iconst 0, 1) := by decide +kernel
theorem dd_Mo_foreignFor_1 : decode bb_Mo_foreignFor 1 = .ok (.istore_n 2, 1) := by decide +kernel
theorem dd_Mo_foreignFor_2 : decode bb_Mo_foreignFor 2 = .ok (.iconst 0, 1) := by decide +kernel
theorem dd_Mo_foreignFor_3 : decode bb_Mo_foreignFor 3 = .ok (.istore_n 3, 1) := by decide +kernel
theorem dd_Mo_foreignFor_4 : decode bb_Mo_foreignFor 4 = .ok (.iload_n 3, 1) := by decide +kernel
theorem dd_Mo_foreignFor_5 : decode bb_Mo_foreignFor 5 = .ok (.aload_n 0, 1) := by decide +kernel
theorem dd_Mo_foreignFor_6 : decode bb_Mo_foreignFor 6 = .ok (.getfield 205, 3) := by decide +kernel
theorem dd_Mo_foreignFor_9 : decode bb_Mo_foreignFor 9 = .ok (.if_icmp .ge (23), 3) := by decide +kernel
theorem dd_Mo_foreignFor_12 : decode bb_Mo_foreignFor 12 = .ok (.iload_n 2, 1) := by decide +kernel
theorem dd_Mo_foreignFor_13 : decode bb_Mo_foreignFor 13 = .ok (.aload_n 0, 1) := by decide +kernel
theorem dd_Mo_foreignFor_14 : decode bb_Mo_foreignFor 14 = .ok (.getfield 45, 3) := by decide +kernel
theorem dd_Mo_foreignFor_17 : decode bb_Mo_foreignFor 17 = .ok (.aload_n 0, 1) := by decide +kernel
theorem dd_Mo_foreignFor_18 : decode bb_Mo_foreignFor 18 = .ok (.getfield 102, 3) := by decide +kernel
theorem dd_Mo_foreignFor_21 : decode bb_Mo_foreignFor 21 = .ok (.iload_n 3, 1) := by decide +kernel
theorem dd_Mo_foreignFor_22 : decode bb_Mo_foreignFor 22 = .ok (.iaload, 1) := by decide +kernel
theorem dd_Mo_foreignFor_23 : decode bb_Mo_foreignFor 23 = .ok (.iaload, 1) := by decide +kernel
theorem dd_Mo_foreignFor_24 : decode bb_Mo_foreignFor 24 = .ok (.ior, 1) := by decide +kernel
theorem dd_Mo_foreignFor_25 : decode bb_Mo_foreignFor 25 = .ok (.istore_n 2, 1) := by decide +kernel
theorem dd_Mo_foreignFor_26 : decode bb_Mo_foreignFor 26 = .ok (.iinc 3 (1), 3) := by decide +kernel
theorem dd_Mo_foreignFor_29 : decode bb_Mo_foreignFor 29 = .ok (.goto (-25), 3) := by decide +kernel
theorem dd_Mo_foreignFor_32 : decode bb_Mo_foreignFor 32 = .ok (.iload_n 2, 1) := by decide +kernel
theorem dd_Mo_foreignFor_33 : decode bb_Mo_foreignFor 33 = .ok (.aload_n 0, 1) := by decide +kernel
theorem dd_Mo_foreignFor_34 : decode bb_Mo_foreignFor 34 = .ok (.getfield 72, 3) := by decide +kernel
theorem dd_Mo_foreignFor_37 : decode bb_Mo_foreignFor 37 = .ok (.iload_n 1, 1) := by decide +kernel
theorem dd_Mo_foreignFor_38 : decode bb_Mo_foreignFor 38 = .ok (.iaload, 1) := by decide +kernel
theorem dd_Mo_foreignFor_39 : decode bb_Mo_foreignFor 39 = .ok (.iand, 1) := by decide +kernel
theorem dd_Mo_foreignFor_40 : decode bb_Mo_foreignFor 40 = .ok (.ireturn, 1) := by decide +kernel
theorem dd_Mo_watch_0 : decode bb_Mo_watch 0 = .ok (.iload_n 1, 1) := by decide +kernel
theorem dd_Mo_watch_1 : decode bb_Mo_watch 1 = .ok (.iconst 0, 1) := by decide +kernel
theorem dd_Mo_watch_2 : decode bb_Mo_watch 2 = .ok (.aload_n 0, 1) := by decide +kernel
theorem dd_Mo_watch_3 : decode bb_Mo_watch 3 = .ok (.getfield 173, 3) := by decide +kernel
theorem dd_Mo_watch_6 : decode bb_Mo_watch 6 = .ok (.iconst 1, 1) := by decide +kernel
theorem dd_Mo_watch_7 : decode bb_Mo_watch 7 = .ok (.isub, 1) := by decide +kernel
theorem dd_Mo_watch_8 : decode bb_Mo_watch 8 = .ok (.invokestatic 118, 3) := by decide +kernel
theorem dd_Mo_watch_11 : decode bb_Mo_watch 11 = .ok (.ifCond .eq (7), 3) := by decide +kernel
theorem dd_Mo_watch_14 : decode bb_Mo_watch 14 = .ok (.sipush (-1001), 3) := by decide +kernel
theorem dd_Mo_watch_17 : decode bb_Mo_watch 17 = .ok (.ireturn, 1) := by decide +kernel
theorem dd_Mo_watch_18 : decode bb_Mo_watch 18 = .ok (.aload_n 0, 1) := by decide +kernel
theorem dd_Mo_watch_19 : decode bb_Mo_watch 19 = .ok (.getfield 226, 3) := by decide +kernel
theorem dd_Mo_watch_22 : decode bb_Mo_watch 22 = .ok (.iconst 4, 1) := by decide +kernel
theorem dd_Mo_watch_23 : decode bb_Mo_watch 23 = .ok (.if_icmp .ne (7), 3) := by decide +kernel
theorem dd_Mo_watch_26 : decode bb_Mo_watch 26 = .ok (.sipush (-1003), 3) := by decide +kernel
theorem dd_Mo_watch_29 : decode bb_Mo_watch 29 = .ok (.ireturn, 1) := by decide +kernel
theorem dd_Mo_watch_30 : decode bb_Mo_watch 30 = .ok (.aload_n 0, 1) := by decide +kernel
theorem dd_Mo_watch_31 : decode bb_Mo_watch 31 = .ok (.getfield 75, 3) := by decide +kernel
theorem dd_Mo_watch_34 : decode bb_Mo_watch 34 = .ok (.aload_n 0, 1) := by decide +kernel
theorem dd_Mo_watch_35 : decode bb_Mo_watch 35 = .ok (.getfield 226, 3) := by decide +kernel
theorem dd_Mo_watch_38 : decode bb_Mo_watch 38 = .ok (.iload_n 1, 1) := by decide +kernel
theorem dd_Mo_watch_39 : decode bb_Mo_watch 39 = .ok (.iastore, 1) := by decide +kernel
theorem dd_Mo_watch_40 : decode bb_Mo_watch 40 = .ok (.aload_n 0, 1) := by decide +kernel
theorem dd_Mo_watch_41 : decode bb_Mo_watch 41 = .ok (.getfield 78, 3) := by decide +kernel
theorem dd_Mo_watch_44 : decode bb_Mo_watch 44 = .ok (.aload_n 0, 1) := by decide +kernel
theorem dd_Mo_watch_45 : decode bb_Mo_watch 45 = .ok (.getfield 226, 3) := by decide +kernel
theorem dd_Mo_watch_48 : decode bb_Mo_watch 48 = .ok (.iload_n 2, 1) := by decide +kernel
theorem dd_Mo_watch_49 : decode bb_Mo_watch 49 = .ok (.iastore, 1) := by decide +kernel
theorem dd_Mo_watch_50 : decode bb_Mo_watch 50 = .ok (.aload_n 0, 1) := by decide +kernel
theorem dd_Mo_watch_51 : decode bb_Mo_watch 51 = .ok (.getfield 81, 3) := by decide +kernel
theorem dd_Mo_watch_54 : decode bb_Mo_watch 54 = .ok (.aload_n 0, 1) := by decide +kernel
theorem dd_Mo_watch_55 : decode bb_Mo_watch 55 = .ok (.getfield 226, 3) := by decide +kernel
theorem dd_Mo_watch_58 : decode bb_Mo_watch 58 = .ok (.iconst (-1), 1) := by decide +kernel
theorem dd_Mo_watch_59 : decode bb_Mo_watch 59 = .ok (.iastore, 1) := by decide +kernel
theorem dd_Mo_watch_60 : decode bb_Mo_watch 60 = .ok (.aload_n 0, 1) := by decide +kernel
theorem dd_Mo_watch_61 : decode bb_Mo_watch 61 = .ok (.dup, 1) := by decide +kernel
theorem dd_Mo_watch_62 : decode bb_Mo_watch 62 = .ok (.getfield 226, 3) := by decide +kernel
theorem dd_Mo_watch_65 : decode bb_Mo_watch 65 = .ok (.iconst 1, 1) := by decide +kernel
theorem dd_Mo_watch_66 : decode bb_Mo_watch 66 = .ok (.iadd, 1) := by decide +kernel
theorem dd_Mo_watch_67 : decode bb_Mo_watch 67 = .ok (.putfield 226, 3) := by decide +kernel
theorem dd_Mo_watch_70 : decode bb_Mo_watch 70 = .ok (.aload_n 0, 1) := by decide +kernel
theorem dd_Mo_watch_71 : decode bb_Mo_watch 71 = .ok (.getfield 226, 3) := by decide +kernel
theorem dd_Mo_watch_74 : decode bb_Mo_watch 74 = .ok (.iconst 1, 1) := by decide +kernel
theorem dd_Mo_watch_75 : decode bb_Mo_watch 75 = .ok (.isub, 1) := by decide +kernel
theorem dd_Mo_watch_76 : decode bb_Mo_watch 76 = .ok (.ireturn, 1) := by decide +kernel
theorem dd_Mo_poll_0 : decode bb_Mo_poll 0 = .ok (.iload_n 1, 1) := by decide +kernel
theorem dd_Mo_poll_1 : decode bb_Mo_poll 1 = .ok (.iconst 0, 1) := by decide +kernel
theorem dd_Mo_poll_2 : decode bb_Mo_poll 2 = .ok (.aload_n 0, 1) := by decide +kernel
theorem dd_Mo_poll_3 : decode bb_Mo_poll 3 = .ok (.getfield 226, 3) := by decide +kernel
theorem dd_Mo_poll_6 : decode bb_Mo_poll 6 = .ok (.iconst 1, 1) := by decide +kernel
theorem dd_Mo_poll_7 : decode bb_Mo_poll 7 = .ok (.isub, 1) := by decide +kernel
theorem dd_Mo_poll_8 : decode bb_Mo_poll 8 = .ok (.invokestatic 118, 3) := by decide +kernel
theorem dd_Mo_poll_11 : decode bb_Mo_poll 11 = .ok (.ifCond .eq (7), 3) := by decide +kernel
theorem dd_Mo_poll_14 : decode bb_Mo_poll 14 = .ok (.sipush (-1001), 3) := by decide +kernel
theorem dd_Mo_poll_17 : decode bb_Mo_poll 17 = .ok (.ireturn, 1) := by decide +kernel
theorem dd_Mo_poll_18 : decode bb_Mo_poll 18 = .ok (.aload_n 0, 1) := by decide +kernel
theorem dd_Mo_poll_19 : decode bb_Mo_poll 19 = .ok (.getfield 75, 3) := by decide +kernel
theorem dd_Mo_poll_22 : decode bb_Mo_poll 22 = .ok (.iload_n 1, 1) := by decide +kernel
theorem dd_Mo_poll_23 : decode bb_Mo_poll 23 = .ok (.iaload, 1) := by decide +kernel
theorem dd_Mo_poll_24 : decode bb_Mo_poll 24 = .ok (.istore_n 2, 1) := by decide +kernel
theorem dd_Mo_poll_25 : decode bb_Mo_poll 25 = .ok (.aload_n 0, 1) := by decide +kernel
theorem dd_Mo_poll_26 : decode bb_Mo_poll 26 = .ok (.iload_n 2, 1) := by decide +kernel
theorem dd_Mo_poll_27 : decode bb_Mo_poll 27 = .ok (.aload_n 0, 1) := by decide +kernel
theorem dd_Mo_poll_28 : decode bb_Mo_poll 28 = .ok (.getfield 78, 3) := by decide +kernel
theorem dd_Mo_poll_31 : decode bb_Mo_poll 31 = .ok (.iload_n 1, 1) := by decide +kernel
theorem dd_Mo_poll_32 : decode bb_Mo_poll 32 = .ok (.iaload, 1) := by decide +kernel
theorem dd_Mo_poll_33 : decode bb_Mo_poll 33 = .ok (.invokevirtual 220, 3) := by decide +kernel
theorem dd_Mo_poll_36 : decode bb_Mo_poll 36 = .ok (.aload_n 0, 1) := by decide +kernel
theorem dd_Mo_poll_37 : decode bb_Mo_poll 37 = .ok (.iload_n 1, 1) := by decide +kernel
theorem dd_Mo_poll_38 : decode bb_Mo_poll 38 = .ok (.iload_n 2, 1) := by decide +kernel
theorem dd_Mo_poll_39 : decode bb_Mo_poll 39 = .ok (.invokevirtual 229, 3) := by decide +kernel
theorem dd_Mo_poll_42 : decode bb_Mo_poll 42 = .ok (.ifCond .ne (5), 3) := by decide +kernel
theorem dd_Mo_poll_45 : decode bb_Mo_poll 45 = .ok (.iconst 0, 1) := by decide +kernel
theorem dd_Mo_poll_46 : decode bb_Mo_poll 46 = .ok (.ireturn, 1) := by decide +kernel
theorem dd_Mo_poll_47 : decode bb_Mo_poll 47 = .ok (.aload_n 0, 1) := by decide +kernel
theorem dd_Mo_poll_48 : decode bb_Mo_poll 48 = .ok (.iload_n 2, 1) := by decide +kernel
theorem dd_Mo_poll_49 : decode bb_Mo_poll 49 = .ok (.invokevirtual 223, 3) := by decide +kernel
theorem dd_Mo_poll_52 : decode bb_Mo_poll 52 = .ok (.istore_n 3, 1) := by decide +kernel
theorem dd_Mo_poll_53 : decode bb_Mo_poll 53 = .ok (.aload_n 0, 1) := by decide +kernel
theorem dd_Mo_poll_54 : decode bb_Mo_poll 54 = .ok (.getfield 81, 3) := by decide +kernel
theorem dd_Mo_poll_57 : decode bb_Mo_poll 57 = .ok (.iload_n 1, 1) := by decide +kernel
theorem dd_Mo_poll_58 : decode bb_Mo_poll 58 = .ok (.aload_n 0, 1) := by decide +kernel
theorem dd_Mo_poll_59 : decode bb_Mo_poll 59 = .ok (.getfield 208, 3) := by decide +kernel
theorem dd_Mo_poll_62 : decode bb_Mo_poll 62 = .ok (.iastore, 1) := by decide +kernel
theorem dd_Mo_poll_63 : decode bb_Mo_poll 63 = .ok (.iconst 0, 1) := by decide +kernel
theorem dd_Mo_poll_64 : decode bb_Mo_poll 64 = .ok (.istore 4, 2) := by decide +kernel
theorem dd_Mo_poll_66 : decode bb_Mo_poll 66 = .ok (.iload 4, 2) := by decide +kernel
theorem dd_Mo_poll_68 : decode bb_Mo_poll 68 = .ok (.aload_n 0, 1) := by decide +kernel
theorem dd_Mo_poll_69 : decode bb_Mo_poll 69 = .ok (.getfield 208, 3) := by decide +kernel
theorem dd_Mo_poll_72 : decode bb_Mo_poll 72 = .ok (.if_icmp .ge (32), 3) := by decide +kernel
theorem dd_Mo_poll_75 : decode bb_Mo_poll 75 = .ok (.aload_n 0, 1) := by decide +kernel
theorem dd_Mo_poll_76 : decode bb_Mo_poll 76 = .ok (.getfield 84, 3) := by decide +kernel
theorem dd_Mo_poll_79 : decode bb_Mo_poll 79 = .ok (.bipush (12), 2) := by decide +kernel
theorem dd_Mo_poll_81 : decode bb_Mo_poll 81 = .ok (.iload_n 1, 1) := by decide +kernel
theorem dd_Mo_poll_82 : decode bb_Mo_poll 82 = .ok (.imul, 1) := by decide +kernel
theorem dd_Mo_poll_83 : decode bb_Mo_poll 83 = .ok (.iload 4, 2) := by decide +kernel
theorem dd_Mo_poll_85 : decode bb_Mo_poll 85 = .ok (.iadd, 1) := by decide +kernel
theorem dd_Mo_poll_86 : decode bb_Mo_poll 86 = .ok (.aload_n 0, 1) := by decide +kernel
theorem dd_Mo_poll_87 : decode bb_Mo_poll 87 = .ok (.getfield 96, 3) := by decide +kernel
theorem dd_Mo_poll_90 : decode bb_Mo_poll 90 = .ok (.iconst 5, 1) := by decide +kernel
theorem dd_Mo_poll_91 : decode bb_Mo_poll 91 = .ok (.iload 4, 2) := by decide +kernel
theorem dd_Mo_poll_93 : decode bb_Mo_poll 93 = .ok (.imul, 1) := by decide +kernel
theorem dd_Mo_poll_94 : decode bb_Mo_poll 94 = .ok (.iconst 1, 1) := by decide +kernel
theorem dd_Mo_poll_95 : decode bb_Mo_poll 95 = .ok (.iadd, 1) := by decide +kernel
theorem dd_Mo_poll_96 : decode bb_Mo_poll 96 = .ok (.iaload, 1) := by decide +kernel
theorem dd_Mo_poll_97 : decode bb_Mo_poll 97 = .ok (.iastore, 1) := by decide +kernel
theorem dd_Mo_poll_98 : decode bb_Mo_poll 98 = .ok (.iinc 4 (1), 3) := by decide +kernel
theorem dd_Mo_poll_101 : decode bb_Mo_poll 101 = .ok (.goto (-35), 3) := by decide +kernel
theorem dd_Mo_poll_104 : decode bb_Mo_poll 104 = .ok (.aload_n 0, 1) := by decide +kernel
theorem dd_Mo_poll_105 : decode bb_Mo_poll 105 = .ok (.getfield 87, 3) := by decide +kernel
theorem dd_Mo_poll_108 : decode bb_Mo_poll 108 = .ok (.iload_n 1, 1) := by decide +kernel
theorem dd_Mo_poll_109 : decode bb_Mo_poll 109 = .ok (.aload_n 0, 1) := by decide +kernel
theorem dd_Mo_poll_110 : decode bb_Mo_poll 110 = .ok (.getfield 211, 3) := by decide +kernel
theorem dd_Mo_poll_113 : decode bb_Mo_poll 113 = .ok (.iastore, 1) := by decide +kernel
theorem dd_Mo_poll_114 : decode bb_Mo_poll 114 = .ok (.iconst 0, 1) := by decide +kernel
theorem dd_Mo_poll_115 : decode bb_Mo_poll 115 = .ok (.istore 4, 2) := by decide +kernel
theorem dd_Mo_poll_117 : decode bb_Mo_poll 117 = .ok (.iload 4, 2) := by decide +kernel
theorem dd_Mo_poll_119 : decode bb_Mo_poll 119 = .ok (.aload_n 0, 1) := by decide +kernel
theorem dd_Mo_poll_120 : decode bb_Mo_poll 120 = .ok (.getfield 211, 3) := by decide +kernel
theorem dd_Mo_poll_123 : decode bb_Mo_poll 123 = .ok (.if_icmp .ge (27), 3) := by decide +kernel
theorem dd_Mo_poll_126 : decode bb_Mo_poll 126 = .ok (.aload_n 0, 1) := by decide +kernel
theorem dd_Mo_poll_127 : decode bb_Mo_poll 127 = .ok (.getfield 90, 3) := by decide +kernel
theorem dd_Mo_poll_130 : decode bb_Mo_poll 130 = .ok (.iconst 4, 1) := by decide +kernel
theorem dd_Mo_poll_131 : decode bb_Mo_poll 131 = .ok (.iload_n 1, 1) := by decide +kernel
theorem dd_Mo_poll_132 : decode bb_Mo_poll 132 = .ok (.imul, 1) := by decide +kernel
theorem dd_Mo_poll_133 : decode bb_Mo_poll 133 = .ok (.iload 4, 2) := by decide +kernel
theorem dd_Mo_poll_135 : decode bb_Mo_poll 135 = .ok (.iadd, 1) := by decide +kernel
theorem dd_Mo_poll_136 : decode bb_Mo_poll 136 = .ok (.aload_n 0, 1) := by decide +kernel
theorem dd_Mo_poll_137 : decode bb_Mo_poll 137 = .ok (.getfield 99, 3) := by decide +kernel
theorem dd_Mo_poll_140 : decode bb_Mo_poll 140 = .ok (.iload 4, 2) := by decide +kernel
theorem dd_Mo_poll_142 : decode bb_Mo_poll 142 = .ok (.iaload, 1) := by decide +kernel
theorem dd_Mo_poll_143 : decode bb_Mo_poll 143 = .ok (.iastore, 1) := by decide +kernel
theorem dd_Mo_poll_144 : decode bb_Mo_poll 144 = .ok (.iinc 4 (1), 3) := by decide +kernel
theorem dd_Mo_poll_147 : decode bb_Mo_poll 147 = .ok (.goto (-30), 3) := by decide +kernel
theorem dd_Mo_poll_150 : decode bb_Mo_poll 150 = .ok (.aload_n 0, 1) := by decide +kernel
theorem dd_Mo_poll_151 : decode bb_Mo_poll 151 = .ok (.getfield 93, 3) := by decide +kernel
theorem dd_Mo_poll_154 : decode bb_Mo_poll 154 = .ok (.iload_n 1, 1) := by decide +kernel
theorem dd_Mo_poll_155 : decode bb_Mo_poll 155 = .ok (.aload_n 0, 1) := by decide +kernel
theorem dd_Mo_poll_156 : decode bb_Mo_poll 156 = .ok (.getfield 217, 3) := by decide +kernel
theorem dd_Mo_poll_159 : decode bb_Mo_poll 159 = .ok (.iastore, 1) := by decide +kernel
theorem dd_Mo_poll_160 : decode bb_Mo_poll 160 = .ok (.iload_n 3, 1) := by decide +kernel
theorem dd_Mo_poll_161 : decode bb_Mo_poll 161 = .ok (.ireturn, 1) := by decide +kernel
theorem dd_Mo_news_0 : decode bb_Mo_news 0 = .ok (.aload_n 0, 1) := by decide +kernel
theorem dd_Mo_news_1 : decode bb_Mo_news 1 = .ok (.getfield 205, 3) := by decide +kernel
theorem dd_Mo_news_4 : decode bb_Mo_news 4 = .ok (.ifCond .le (12), 3) := by decide +kernel
theorem dd_Mo_news_7 : decode bb_Mo_news 7 = .ok (.aload_n 0, 1) := by decide +kernel
theorem dd_Mo_news_8 : decode bb_Mo_news 8 = .ok (.getfield 69, 3) := by decide +kernel
theorem dd_Mo_news_11 : decode bb_Mo_news 11 = .ok (.iload_n 2, 1) := by decide +kernel
theorem dd_Mo_news_12 : decode bb_Mo_news 12 = .ok (.iaload, 1) := by decide +kernel
theorem dd_Mo_news_13 : decode bb_Mo_news 13 = .ok (.goto (4), 3) := by decide +kernel
theorem dd_Mo_news_16 : decode bb_Mo_news 16 = .ok (.iconst 0, 1) := by decide +kernel
theorem dd_Mo_news_17 : decode bb_Mo_news 17 = .ok (.istore_n 3, 1) := by decide +kernel
theorem dd_Mo_news_18 : decode bb_Mo_news 18 = .ok (.aload_n 0, 1) := by decide +kernel
theorem dd_Mo_news_19 : decode bb_Mo_news 19 = .ok (.getfield 81, 3) := by decide +kernel
theorem dd_Mo_news_22 : decode bb_Mo_news 22 = .ok (.iload_n 1, 1) := by decide +kernel
theorem dd_Mo_news_23 : decode bb_Mo_news 23 = .ok (.iaload, 1) := by decide +kernel
theorem dd_Mo_news_24 : decode bb_Mo_news 24 = .ok (.aload_n 0, 1) := by decide +kernel
theorem dd_Mo_news_25 : decode bb_Mo_news 25 = .ok (.getfield 205, 3) := by decide +kernel
theorem dd_Mo_news_28 : decode bb_Mo_news 28 = .ok (.if_icmp .ne (31), 3) := by decide +kernel
theorem dd_Mo_news_31 : decode bb_Mo_news 31 = .ok (.aload_n 0, 1) := by decide +kernel
theorem dd_Mo_news_32 : decode bb_Mo_news 32 = .ok (.getfield 87, 3) := by decide +kernel
theorem dd_Mo_news_35 : decode bb_Mo_news 35 = .ok (.iload_n 1, 1) := by decide +kernel
theorem dd_Mo_news_36 : decode bb_Mo_news 36 = .ok (.iaload, 1) := by decide +kernel
theorem dd_Mo_news_37 : decode bb_Mo_news 37 = .ok (.iload_n 3, 1) := by decide +kernel
theorem dd_Mo_news_38 : decode bb_Mo_news 38 = .ok (.if_icmp .ne (21), 3) := by decide +kernel
theorem dd_Mo_news_41 : decode bb_Mo_news 41 = .ok (.aload_n 0, 1) := by decide +kernel
theorem dd_Mo_news_42 : decode bb_Mo_news 42 = .ok (.getfield 93, 3) := by decide +kernel
theorem dd_Mo_news_45 : decode bb_Mo_news 45 = .ok (.iload_n 1, 1) := by decide +kernel
theorem dd_Mo_news_46 : decode bb_Mo_news 46 = .ok (.iaload, 1) := by decide +kernel
theorem dd_Mo_news_47 : decode bb_Mo_news 47 = .ok (.aload_n 0, 1) := by decide +kernel
theorem dd_Mo_news_48 : decode bb_Mo_news 48 = .ok (.iload_n 2, 1) := by decide +kernel
theorem dd_Mo_news_49 : decode bb_Mo_news 49 = .ok (.invokevirtual 214, 3) := by decide +kernel
theorem dd_Mo_news_52 : decode bb_Mo_news 52 = .ok (.if_icmp .ne (7), 3) := by decide +kernel
theorem dd_Mo_news_55 : decode bb_Mo_news 55 = .ok (.iconst 1, 1) := by decide +kernel
theorem dd_Mo_news_56 : decode bb_Mo_news 56 = .ok (.goto (4), 3) := by decide +kernel
theorem dd_Mo_news_59 : decode bb_Mo_news 59 = .ok (.iconst 0, 1) := by decide +kernel
theorem dd_Mo_news_60 : decode bb_Mo_news 60 = .ok (.istore 4, 2) := by decide +kernel
theorem dd_Mo_news_62 : decode bb_Mo_news 62 = .ok (.iconst 0, 1) := by decide +kernel
theorem dd_Mo_news_63 : decode bb_Mo_news 63 = .ok (.istore 5, 2) := by decide +kernel
theorem dd_Mo_news_65 : decode bb_Mo_news 65 = .ok (.iload 5, 2) := by decide +kernel
theorem dd_Mo_news_67 : decode bb_Mo_news 67 = .ok (.aload_n 0, 1) := by decide +kernel
theorem dd_Mo_news_68 : decode bb_Mo_news 68 = .ok (.getfield 205, 3) := by decide +kernel
theorem dd_Mo_news_71 : decode bb_Mo_news 71 = .ok (.if_icmp .ge (53), 3) := by decide +kernel
theorem dd_Mo_news_74 : decode bb_Mo_news 74 = .ok (.iload 4, 2) := by decide +kernel
theorem dd_Mo_news_76 : decode bb_Mo_news 76 = .ok (.ifCond .eq (48), 3) := by decide +kernel
theorem dd_Mo_news_79 : decode bb_Mo_news 79 = .ok (.aload_n 0, 1) := by decide +kernel
theorem dd_Mo_news_80 : decode bb_Mo_news 80 = .ok (.getfield 84, 3) := by decide +kernel
theorem dd_Mo_news_83 : decode bb_Mo_news 83 = .ok (.bipush (12), 2) := by decide +kernel
theorem dd_Mo_news_85 : decode bb_Mo_news 85 = .ok (.iload_n 1, 1) := by decide +kernel
theorem dd_Mo_news_86 : decode bb_Mo_news 86 = .ok (.imul, 1) := by decide +kernel
theorem dd_Mo_news_87 : decode bb_Mo_news 87 = .ok (.iload 5, 2) := by decide +kernel
theorem dd_Mo_news_89 : decode bb_Mo_news 89 = .ok (.iadd, 1) := by decide +kernel
theorem dd_Mo_news_90 : decode bb_Mo_news 90 = .ok (.iaload, 1) := by decide +kernel
theorem dd_Mo_news_91 : decode bb_Mo_news 91 = .ok (.aload_n 0, 1) := by decide +kernel
theorem dd_Mo_news_92 : decode bb_Mo_news 92 = .ok (.getfield 54, 3) := by decide +kernel
theorem dd_Mo_news_95 : decode bb_Mo_news 95 = .ok (.bipush (60), 2) := by decide +kernel
theorem dd_Mo_news_97 : decode bb_Mo_news 97 = .ok (.iload_n 2, 1) := by decide +kernel
theorem dd_Mo_news_98 : decode bb_Mo_news 98 = .ok (.imul, 1) := by decide +kernel
theorem dd_Mo_news_99 : decode bb_Mo_news 99 = .ok (.aload_n 0, 1) := by decide +kernel
theorem dd_Mo_news_100 : decode bb_Mo_news 100 = .ok (.getfield 102, 3) := by decide +kernel
theorem dd_Mo_news_103 : decode bb_Mo_news 103 = .ok (.iload 5, 2) := by decide +kernel
theorem dd_Mo_news_105 : decode bb_Mo_news 105 = .ok (.iaload, 1) := by decide +kernel
theorem dd_Mo_news_106 : decode bb_Mo_news 106 = .ok (.iadd, 1) := by decide +kernel
theorem dd_Mo_news_107 : decode bb_Mo_news 107 = .ok (.iaload, 1) := by decide +kernel
theorem dd_Mo_news_108 : decode bb_Mo_news 108 = .ok (.if_icmp .ne (7), 3) := by decide +kernel
theorem dd_Mo_news_111 : decode bb_Mo_news 111 = .ok (.iconst 1, 1) := by decide +kernel
theorem dd_Mo_news_112 : decode bb_Mo_news 112 = .ok (.goto (4), 3) := by decide +kernel
theorem dd_Mo_news_115 : decode bb_Mo_news 115 = .ok (.iconst 0, 1) := by decide +kernel
theorem dd_Mo_news_116 : decode bb_Mo_news 116 = .ok (.istore 4, 2) := by decide +kernel
theorem dd_Mo_news_118 : decode bb_Mo_news 118 = .ok (.iinc 5 (1), 3) := by decide +kernel
theorem dd_Mo_news_121 : decode bb_Mo_news 121 = .ok (.goto (-56), 3) := by decide +kernel
theorem dd_Mo_news_124 : decode bb_Mo_news 124 = .ok (.iconst 0, 1) := by decide +kernel
theorem dd_Mo_news_125 : decode bb_Mo_news 125 = .ok (.istore 5, 2) := by decide +kernel
theorem dd_Mo_news_127 : decode bb_Mo_news 127 = .ok (.iload 5, 2) := by decide +kernel
theorem dd_Mo_news_129 : decode bb_Mo_news 129 = .ok (.iload_n 3, 1) := by decide +kernel
theorem dd_Mo_news_130 : decode bb_Mo_news 130 = .ok (.if_icmp .ge (46), 3) := by decide +kernel
theorem dd_Mo_news_133 : decode bb_Mo_news 133 = .ok (.iload 4, 2) := by decide +kernel
theorem dd_Mo_news_135 : decode bb_Mo_news 135 = .ok (.ifCond .eq (41), 3) := by decide +kernel
theorem dd_Mo_news_138 : decode bb_Mo_news 138 = .ok (.aload_n 0, 1) := by decide +kernel
theorem dd_Mo_news_139 : decode bb_Mo_news 139 = .ok (.getfield 90, 3) := by decide +kernel
theorem dd_Mo_news_142 : decode bb_Mo_news 142 = .ok (.iconst 4, 1) := by decide +kernel
theorem dd_Mo_news_143 : decode bb_Mo_news 143 = .ok (.iload_n 1, 1) := by decide +kernel
theorem dd_Mo_news_144 : decode bb_Mo_news 144 = .ok (.imul, 1) := by decide +kernel
theorem dd_Mo_news_145 : decode bb_Mo_news 145 = .ok (.iload 5, 2) := by decide +kernel
theorem dd_Mo_news_147 : decode bb_Mo_news 147 = .ok (.iadd, 1) := by decide +kernel
theorem dd_Mo_news_148 : decode bb_Mo_news 148 = .ok (.iaload, 1) := by decide +kernel
theorem dd_Mo_news_149 : decode bb_Mo_news 149 = .ok (.aload_n 0, 1) := by decide +kernel
theorem dd_Mo_news_150 : decode bb_Mo_news 150 = .ok (.getfield 66, 3) := by decide +kernel
theorem dd_Mo_news_153 : decode bb_Mo_news 153 = .ok (.iconst 4, 1) := by decide +kernel
theorem dd_Mo_news_154 : decode bb_Mo_news 154 = .ok (.iload_n 2, 1) := by decide +kernel
theorem dd_Mo_news_155 : decode bb_Mo_news 155 = .ok (.imul, 1) := by decide +kernel
theorem dd_Mo_news_156 : decode bb_Mo_news 156 = .ok (.iload 5, 2) := by decide +kernel
theorem dd_Mo_news_158 : decode bb_Mo_news 158 = .ok (.iadd, 1) := by decide +kernel
theorem dd_Mo_news_159 : decode bb_Mo_news 159 = .ok (.iaload, 1) := by decide +kernel
theorem dd_Mo_news_160 : decode bb_Mo_news 160 = .ok (.if_icmp .ne (7), 3) := by decide +kernel
theorem dd_Mo_news_163 : decode bb_Mo_news 163 = .ok (.iconst 1, 1) := by decide +kernel
theorem dd_Mo_news_164 : decode bb_Mo_news 164 = .ok (.goto (4), 3) := by decide +kernel
theorem dd_Mo_news_167 : decode bb_Mo_news 167 = .ok (.iconst 0, 1) := by decide +kernel
theorem dd_Mo_news_168 : decode bb_Mo_news 168 = .ok (.istore 4, 2) := by decide +kernel
theorem dd_Mo_news_170 : decode bb_Mo_news 170 = .ok (.iinc 5 (1), 3) := by decide +kernel
theorem dd_Mo_news_173 : decode bb_Mo_news 173 = .ok (.goto (-46), 3) := by decide +kernel
theorem dd_Mo_news_176 : decode bb_Mo_news 176 = .ok (.iload 4, 2) := by decide +kernel
theorem dd_Mo_news_178 : decode bb_Mo_news 178 = .ok (.ifCond .ne (7), 3) := by decide +kernel
theorem dd_Mo_news_181 : decode bb_Mo_news 181 = .ok (.iconst 1, 1) := by decide +kernel
theorem dd_Mo_news_182 : decode bb_Mo_news 182 = .ok (.goto (4), 3) := by decide +kernel
theorem dd_Mo_news_185 : decode bb_Mo_news 185 = .ok (.iconst 0, 1) := by decide +kernel
theorem dd_Mo_news_186 : decode bb_Mo_news 186 = .ok (.ireturn, 1) := by decide +kernel
