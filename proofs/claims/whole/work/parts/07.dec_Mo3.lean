theorem dd_Mo_svid_0 : decode bb_Mo_svid 0 = .ok (.iload_n 1, 1) := by decide +kernel
theorem dd_Mo_svid_1 : decode bb_Mo_svid 1 = .ok (.iconst 0, 1) := by decide +kernel
theorem dd_Mo_svid_2 : decode bb_Mo_svid 2 = .ok (.aload_n 0, 1) := by decide +kernel
theorem dd_Mo_svid_3 : decode bb_Mo_svid 3 = .ok (.getfield 208, 3) := by decide +kernel
theorem dd_Mo_svid_6 : decode bb_Mo_svid 6 = .ok (.iconst 1, 1) := by decide +kernel
theorem dd_Mo_svid_7 : decode bb_Mo_svid 7 = .ok (.isub, 1) := by decide +kernel
theorem dd_Mo_svid_8 : decode bb_Mo_svid 8 = .ok (.invokestatic 118, 3) := by decide +kernel
theorem dd_Mo_svid_11 : decode bb_Mo_svid 11 = .ok (.ifCond .ne (12), 3) := by decide +kernel
theorem dd_Mo_svid_14 : decode bb_Mo_svid 14 = .ok (.iload_n 2, 1) := by decide +kernel
theorem dd_Mo_svid_15 : decode bb_Mo_svid 15 = .ok (.iconst 0, 1) := by decide +kernel
theorem dd_Mo_svid_16 : decode bb_Mo_svid 16 = .ok (.iconst 4, 1) := by decide +kernel
theorem dd_Mo_svid_17 : decode bb_Mo_svid 17 = .ok (.invokestatic 118, 3) := by decide +kernel
theorem dd_Mo_svid_20 : decode bb_Mo_svid 20 = .ok (.ifCond .eq (9), 3) := by decide +kernel
theorem dd_Mo_svid_23 : decode bb_Mo_svid 23 = .ok (.sipush (-1001), 3) := by decide +kernel
theorem dd_Mo_svid_26 : decode bb_Mo_svid 26 = .ok (.goto (13), 3) := by decide +kernel
theorem dd_Mo_svid_29 : decode bb_Mo_svid 29 = .ok (.aload_n 0, 1) := by decide +kernel
theorem dd_Mo_svid_30 : decode bb_Mo_svid 30 = .ok (.getfield 96, 3) := by decide +kernel
theorem dd_Mo_svid_33 : decode bb_Mo_svid 33 = .ok (.iconst 5, 1) := by decide +kernel
theorem dd_Mo_svid_34 : decode bb_Mo_svid 34 = .ok (.iload_n 1, 1) := by decide +kernel
theorem dd_Mo_svid_35 : decode bb_Mo_svid 35 = .ok (.imul, 1) := by decide +kernel
theorem dd_Mo_svid_36 : decode bb_Mo_svid 36 = .ok (.iload_n 2, 1) := by decide +kernel
theorem dd_Mo_svid_37 : decode bb_Mo_svid 37 = .ok (.iadd, 1) := by decide +kernel
theorem dd_Mo_svid_38 : decode bb_Mo_svid 38 = .ok (.iaload, 1) := by decide +kernel
theorem dd_Mo_svid_39 : decode bb_Mo_svid 39 = .ok (.ireturn, 1) := by decide +kernel
theorem dd_Mo_key_0 : decode bb_Mo_key 0 = .ok (.iload_n 1, 1) := by decide +kernel
theorem dd_Mo_key_1 : decode bb_Mo_key 1 = .ok (.iconst 0, 1) := by decide +kernel
theorem dd_Mo_key_2 : decode bb_Mo_key 2 = .ok (.aload_n 0, 1) := by decide +kernel
theorem dd_Mo_key_3 : decode bb_Mo_key 3 = .ok (.getfield 211, 3) := by decide +kernel
theorem dd_Mo_key_6 : decode bb_Mo_key 6 = .ok (.iconst 1, 1) := by decide +kernel
theorem dd_Mo_key_7 : decode bb_Mo_key 7 = .ok (.isub, 1) := by decide +kernel
theorem dd_Mo_key_8 : decode bb_Mo_key 8 = .ok (.invokestatic 118, 3) := by decide +kernel
theorem dd_Mo_key_11 : decode bb_Mo_key 11 = .ok (.ifCond .eq (9), 3) := by decide +kernel
theorem dd_Mo_key_14 : decode bb_Mo_key 14 = .ok (.sipush (-1001), 3) := by decide +kernel
theorem dd_Mo_key_17 : decode bb_Mo_key 17 = .ok (.goto (9), 3) := by decide +kernel
theorem dd_Mo_key_20 : decode bb_Mo_key 20 = .ok (.aload_n 0, 1) := by decide +kernel
theorem dd_Mo_key_21 : decode bb_Mo_key 21 = .ok (.getfield 99, 3) := by decide +kernel
theorem dd_Mo_key_24 : decode bb_Mo_key 24 = .ok (.iload_n 1, 1) := by decide +kernel
theorem dd_Mo_key_25 : decode bb_Mo_key 25 = .ok (.iaload, 1) := by decide +kernel
theorem dd_Mo_key_26 : decode bb_Mo_key 26 = .ok (.ireturn, 1) := by decide +kernel
theorem dd_Mo_friends_0 : decode bb_Mo_friends 0 = .ok (.aload_n 0, 1) := by decide +kernel
theorem dd_Mo_friends_1 : decode bb_Mo_friends 1 = .ok (.getfield 217, 3) := by decide +kernel
theorem dd_Mo_friends_4 : decode bb_Mo_friends 4 = .ok (.ireturn, 1) := by decide +kernel
theorem dd_Mo_written_0 : decode bb_Mo_written 0 = .ok (.iload_n 1, 1) := by decide +kernel
theorem dd_Mo_written_1 : decode bb_Mo_written 1 = .ok (.iconst 0, 1) := by decide +kernel
theorem dd_Mo_written_2 : decode bb_Mo_written 2 = .ok (.aload_n 0, 1) := by decide +kernel
theorem dd_Mo_written_3 : decode bb_Mo_written 3 = .ok (.getfield 208, 3) := by decide +kernel
theorem dd_Mo_written_6 : decode bb_Mo_written 6 = .ok (.iconst 1, 1) := by decide +kernel
theorem dd_Mo_written_7 : decode bb_Mo_written 7 = .ok (.isub, 1) := by decide +kernel
theorem dd_Mo_written_8 : decode bb_Mo_written 8 = .ok (.invokestatic 118, 3) := by decide +kernel
theorem dd_Mo_written_11 : decode bb_Mo_written 11 = .ok (.ifCond .eq (7), 3) := by decide +kernel
theorem dd_Mo_written_14 : decode bb_Mo_written 14 = .ok (.sipush (-1001), 3) := by decide +kernel
theorem dd_Mo_written_17 : decode bb_Mo_written 17 = .ok (.ireturn, 1) := by decide +kernel
theorem dd_Mo_written_18 : decode bb_Mo_written 18 = .ok (.aload_n 0, 1) := by decide +kernel
theorem dd_Mo_written_19 : decode bb_Mo_written 19 = .ok (.iload_n 1, 1) := by decide +kernel
theorem dd_Mo_written_20 : decode bb_Mo_written 20 = .ok (.invokevirtual 285, 3) := by decide +kernel
theorem dd_Mo_written_23 : decode bb_Mo_written 23 = .ok (.iload_n 2, 1) := by decide +kernel
theorem dd_Mo_written_24 : decode bb_Mo_written 24 = .ok (.iconst 0, 1) := by decide +kernel
theorem dd_Mo_written_25 : decode bb_Mo_written 25 = .ok (.aload_n 0, 1) := by decide +kernel
theorem dd_Mo_written_26 : decode bb_Mo_written 26 = .ok (.getfield 263, 3) := by decide +kernel
theorem dd_Mo_written_29 : decode bb_Mo_written 29 = .ok (.iconst 1, 1) := by decide +kernel
theorem dd_Mo_written_30 : decode bb_Mo_written 30 = .ok (.isub, 1) := by decide +kernel
theorem dd_Mo_written_31 : decode bb_Mo_written 31 = .ok (.invokestatic 118, 3) := by decide +kernel
theorem dd_Mo_written_34 : decode bb_Mo_written 34 = .ok (.ifCond .eq (9), 3) := by decide +kernel
theorem dd_Mo_written_37 : decode bb_Mo_written 37 = .ok (.sipush (-1001), 3) := by decide +kernel
theorem dd_Mo_written_40 : decode bb_Mo_written 40 = .ok (.goto (9), 3) := by decide +kernel
theorem dd_Mo_written_43 : decode bb_Mo_written 43 = .ok (.aload_n 0, 1) := by decide +kernel
theorem dd_Mo_written_44 : decode bb_Mo_written 44 = .ok (.getfield 105, 3) := by decide +kernel
theorem dd_Mo_written_47 : decode bb_Mo_written 47 = .ok (.iload_n 2, 1) := by decide +kernel
theorem dd_Mo_written_48 : decode bb_Mo_written 48 = .ok (.iaload, 1) := by decide +kernel
theorem dd_Mo_written_49 : decode bb_Mo_written 49 = .ok (.ireturn, 1) := by decide +kernel
theorem dd_Mo_make_0 : decode bb_Mo_make 0 = .ok (.aload_n 0, 1) := by decide +kernel
theorem dd_Mo_make_1 : decode bb_Mo_make 1 = .ok (.getfield 33, 3) := by decide +kernel
theorem dd_Mo_make_4 : decode bb_Mo_make 4 = .ok (.aload_n 0, 1) := by decide +kernel
theorem dd_Mo_make_5 : decode bb_Mo_make 5 = .ok (.getfield 96, 3) := by decide +kernel
theorem dd_Mo_make_8 : decode bb_Mo_make 8 = .ok (.iconst 5, 1) := by decide +kernel
theorem dd_Mo_make_9 : decode bb_Mo_make 9 = .ok (.iload_n 1, 1) := by decide +kernel
theorem dd_Mo_make_10 : decode bb_Mo_make 10 = .ok (.imul, 1) := by decide +kernel
theorem dd_Mo_make_11 : decode bb_Mo_make 11 = .ok (.iaload, 1) := by decide +kernel
theorem dd_Mo_make_12 : decode bb_Mo_make 12 = .ok (.iaload, 1) := by decide +kernel
theorem dd_Mo_make_13 : decode bb_Mo_make 13 = .ok (.istore_n 2, 1) := by decide +kernel
theorem dd_Mo_make_14 : decode bb_Mo_make 14 = .ok (.aload_n 0, 1) := by decide +kernel
theorem dd_Mo_make_15 : decode bb_Mo_make 15 = .ok (.iconst 0, 1) := by decide +kernel
theorem dd_Mo_make_16 : decode bb_Mo_make 16 = .ok (.putfield 263, 3) := by decide +kernel
theorem dd_Mo_make_19 : decode bb_Mo_make 19 = .ok (.aload_n 0, 1) := by decide +kernel
theorem dd_Mo_make_20 : decode bb_Mo_make 20 = .ok (.bipush (48), 2) := by decide +kernel
theorem dd_Mo_make_22 : decode bb_Mo_make 22 = .ok (.invokevirtual 268, 3) := by decide +kernel
theorem dd_Mo_make_25 : decode bb_Mo_make 25 = .ok (.aload_n 0, 1) := by decide +kernel
theorem dd_Mo_make_26 : decode bb_Mo_make 26 = .ok (.iconst 0, 1) := by decide +kernel
theorem dd_Mo_make_27 : decode bb_Mo_make 27 = .ok (.invokevirtual 268, 3) := by decide +kernel
theorem dd_Mo_make_30 : decode bb_Mo_make 30 = .ok (.aload_n 0, 1) := by decide +kernel
theorem dd_Mo_make_31 : decode bb_Mo_make 31 = .ok (.bipush (48), 2) := by decide +kernel
theorem dd_Mo_make_33 : decode bb_Mo_make 33 = .ok (.invokevirtual 268, 3) := by decide +kernel
theorem dd_Mo_make_36 : decode bb_Mo_make 36 = .ok (.aload_n 0, 1) := by decide +kernel
theorem dd_Mo_make_37 : decode bb_Mo_make 37 = .ok (.iconst 0, 1) := by decide +kernel
theorem dd_Mo_make_38 : decode bb_Mo_make 38 = .ok (.invokevirtual 268, 3) := by decide +kernel
theorem dd_Mo_make_41 : decode bb_Mo_make 41 = .ok (.iconst 1, 1) := by decide +kernel
theorem dd_Mo_make_42 : decode bb_Mo_make 42 = .ok (.istore_n 3, 1) := by decide +kernel
theorem dd_Mo_make_43 : decode bb_Mo_make 43 = .ok (.iload_n 3, 1) := by decide +kernel
theorem dd_Mo_make_44 : decode bb_Mo_make 44 = .ok (.iconst 5, 1) := by decide +kernel
theorem dd_Mo_make_45 : decode bb_Mo_make 45 = .ok (.if_icmp .ge (23), 3) := by decide +kernel
theorem dd_Mo_make_48 : decode bb_Mo_make 48 = .ok (.aload_n 0, 1) := by decide +kernel
theorem dd_Mo_make_49 : decode bb_Mo_make 49 = .ok (.aload_n 0, 1) := by decide +kernel
theorem dd_Mo_make_50 : decode bb_Mo_make 50 = .ok (.getfield 96, 3) := by decide +kernel
theorem dd_Mo_make_53 : decode bb_Mo_make 53 = .ok (.iconst 5, 1) := by decide +kernel
theorem dd_Mo_make_54 : decode bb_Mo_make 54 = .ok (.iload_n 1, 1) := by decide +kernel
theorem dd_Mo_make_55 : decode bb_Mo_make 55 = .ok (.imul, 1) := by decide +kernel
theorem dd_Mo_make_56 : decode bb_Mo_make 56 = .ok (.iload_n 3, 1) := by decide +kernel
theorem dd_Mo_make_57 : decode bb_Mo_make 57 = .ok (.iadd, 1) := by decide +kernel
theorem dd_Mo_make_58 : decode bb_Mo_make 58 = .ok (.iaload, 1) := by decide +kernel
theorem dd_Mo_make_59 : decode bb_Mo_make 59 = .ok (.invokevirtual 271, 3) := by decide +kernel
theorem dd_Mo_make_62 : decode bb_Mo_make 62 = .ok (.iinc 3 (1), 3) := by decide +kernel
theorem dd_Mo_make_65 : decode bb_Mo_make 65 = .ok (.goto (-22), 3) := by decide +kernel
theorem dd_Mo_make_68 : decode bb_Mo_make 68 = .ok (.aload_n 0, 1) := by decide +kernel
theorem dd_Mo_make_69 : decode bb_Mo_make 69 = .ok (.sipush (134), 3) := by decide +kernel
theorem dd_Mo_make_72 : decode bb_Mo_make 72 = .ok (.invokevirtual 268, 3) := by decide +kernel
theorem dd_Mo_make_75 : decode bb_Mo_make 75 = .ok (.aload_n 0, 1) := by decide +kernel
theorem dd_Mo_make_76 : decode bb_Mo_make 76 = .ok (.aload_n 0, 1) := by decide +kernel
theorem dd_Mo_make_77 : decode bb_Mo_make 77 = .ok (.getfield 16, 3) := by decide +kernel
theorem dd_Mo_make_80 : decode bb_Mo_make 80 = .ok (.iload_n 2, 1) := by decide +kernel
theorem dd_Mo_make_81 : decode bb_Mo_make 81 = .ok (.iaload, 1) := by decide +kernel
theorem dd_Mo_make_82 : decode bb_Mo_make 82 = .ok (.invokevirtual 268, 3) := by decide +kernel
theorem dd_Mo_make_85 : decode bb_Mo_make 85 = .ok (.iconst 0, 1) := by decide +kernel
theorem dd_Mo_make_86 : decode bb_Mo_make 86 = .ok (.istore_n 3, 1) := by decide +kernel
theorem dd_Mo_make_87 : decode bb_Mo_make 87 = .ok (.iload_n 3, 1) := by decide +kernel
theorem dd_Mo_make_88 : decode bb_Mo_make 88 = .ok (.aload_n 0, 1) := by decide +kernel
theorem dd_Mo_make_89 : decode bb_Mo_make 89 = .ok (.getfield 16, 3) := by decide +kernel
theorem dd_Mo_make_92 : decode bb_Mo_make 92 = .ok (.iload_n 2, 1) := by decide +kernel
theorem dd_Mo_make_93 : decode bb_Mo_make 93 = .ok (.iaload, 1) := by decide +kernel
theorem dd_Mo_make_94 : decode bb_Mo_make 94 = .ok (.if_icmp .ge (24), 3) := by decide +kernel
theorem dd_Mo_make_97 : decode bb_Mo_make 97 = .ok (.aload_n 0, 1) := by decide +kernel
theorem dd_Mo_make_98 : decode bb_Mo_make 98 = .ok (.aload_n 0, 1) := by decide +kernel
theorem dd_Mo_make_99 : decode bb_Mo_make 99 = .ok (.getfield 13, 3) := by decide +kernel
theorem dd_Mo_make_102 : decode bb_Mo_make 102 = .ok (.bipush (40), 2) := by decide +kernel
theorem dd_Mo_make_104 : decode bb_Mo_make 104 = .ok (.iload_n 2, 1) := by decide +kernel
theorem dd_Mo_make_105 : decode bb_Mo_make 105 = .ok (.imul, 1) := by decide +kernel
theorem dd_Mo_make_106 : decode bb_Mo_make 106 = .ok (.iload_n 3, 1) := by decide +kernel
theorem dd_Mo_make_107 : decode bb_Mo_make 107 = .ok (.iadd, 1) := by decide +kernel
theorem dd_Mo_make_108 : decode bb_Mo_make 108 = .ok (.iaload, 1) := by decide +kernel
theorem dd_Mo_make_109 : decode bb_Mo_make 109 = .ok (.invokevirtual 268, 3) := by decide +kernel
theorem dd_Mo_make_112 : decode bb_Mo_make 112 = .ok (.iinc 3 (1), 3) := by decide +kernel
theorem dd_Mo_make_115 : decode bb_Mo_make 115 = .ok (.goto (-28), 3) := by decide +kernel
theorem dd_Mo_make_118 : decode bb_Mo_make 118 = .ok (.aload_n 0, 1) := by decide +kernel
theorem dd_Mo_make_119 : decode bb_Mo_make 119 = .ok (.iconst 3, 1) := by decide +kernel
theorem dd_Mo_make_120 : decode bb_Mo_make 120 = .ok (.invokevirtual 268, 3) := by decide +kernel
theorem dd_Mo_make_123 : decode bb_Mo_make 123 = .ok (.aload_n 0, 1) := by decide +kernel
theorem dd_Mo_make_124 : decode bb_Mo_make 124 = .ok (.iconst 2, 1) := by decide +kernel
theorem dd_Mo_make_125 : decode bb_Mo_make 125 = .ok (.invokevirtual 268, 3) := by decide +kernel
theorem dd_Mo_make_128 : decode bb_Mo_make 128 = .ok (.aload_n 0, 1) := by decide +kernel
theorem dd_Mo_make_129 : decode bb_Mo_make 129 = .ok (.bipush (7), 2) := by decide +kernel
theorem dd_Mo_make_131 : decode bb_Mo_make 131 = .ok (.invokevirtual 268, 3) := by decide +kernel
theorem dd_Mo_make_134 : decode bb_Mo_make 134 = .ok (.aload_n 0, 1) := by decide +kernel
theorem dd_Mo_make_135 : decode bb_Mo_make 135 = .ok (.sipush (128), 3) := by decide +kernel
theorem dd_Mo_make_138 : decode bb_Mo_make 138 = .ok (.invokevirtual 268, 3) := by decide +kernel
theorem dd_Mo_make_141 : decode bb_Mo_make 141 = .ok (.aload_n 0, 1) := by decide +kernel
theorem dd_Mo_make_142 : decode bb_Mo_make 142 = .ok (.getfield 105, 3) := by decide +kernel
theorem dd_Mo_make_145 : decode bb_Mo_make 145 = .ok (.iconst 3, 1) := by decide +kernel
theorem dd_Mo_make_146 : decode bb_Mo_make 146 = .ok (.aload_n 0, 1) := by decide +kernel
theorem dd_Mo_make_147 : decode bb_Mo_make 147 = .ok (.getfield 263, 3) := by decide +kernel
theorem dd_Mo_make_150 : decode bb_Mo_make 150 = .ok (.iconst 4, 1) := by decide +kernel
theorem dd_Mo_make_151 : decode bb_Mo_make 151 = .ok (.isub, 1) := by decide +kernel
theorem dd_Mo_make_152 : decode bb_Mo_make 152 = .ok (.iastore, 1) := by decide +kernel
theorem dd_Mo_make_153 : decode bb_Mo_make 153 = .ok (.lconst 1, 1) := by decide +kernel
theorem dd_Mo_make_154 : decode bb_Mo_make 154 = .ok (.lstore_n 3, 1) := by decide +kernel
theorem dd_Mo_make_155 : decode bb_Mo_make 155 = .ok (.iconst 2, 1) := by decide +kernel
theorem dd_Mo_make_156 : decode bb_Mo_make 156 = .ok (.istore 5, 2) := by decide +kernel
theorem dd_Mo_make_158 : decode bb_Mo_make 158 = .ok (.iload 5, 2) := by decide +kernel
theorem dd_Mo_make_160 : decode bb_Mo_make 160 = .ok (.aload_n 0, 1) := by decide +kernel
theorem dd_Mo_make_161 : decode bb_Mo_make 161 = .ok (.getfield 263, 3) := by decide +kernel
theorem dd_Mo_make_164 : decode bb_Mo_make 164 = .ok (.if_icmp .ge (21), 3) := by decide +kernel
theorem dd_Mo_make_167 : decode bb_Mo_make 167 = .ok (.lload_n 3, 1) := by decide +kernel
theorem dd_Mo_make_168 : decode bb_Mo_make 168 = .ok (.aload_n 0, 1) := by decide +kernel
theorem dd_Mo_make_169 : decode bb_Mo_make 169 = .ok (.getfield 105, 3) := by decide +kernel
theorem dd_Mo_make_172 : decode bb_Mo_make 172 = .ok (.iload 5, 2) := by decide +kernel
theorem dd_Mo_make_174 : decode bb_Mo_make 174 = .ok (.iaload, 1) := by decide +kernel
theorem dd_Mo_make_175 : decode bb_Mo_make 175 = .ok (.invokestatic 274, 3) := by decide +kernel
theorem dd_Mo_make_178 : decode bb_Mo_make 178 = .ok (.lstore_n 3, 1) := by decide +kernel
theorem dd_Mo_make_179 : decode bb_Mo_make 179 = .ok (.iinc 5 (1), 3) := by decide +kernel
theorem dd_Mo_make_182 : decode bb_Mo_make 182 = .ok (.goto (-24), 3) := by decide +kernel
theorem dd_Mo_make_185 : decode bb_Mo_make 185 = .ok (.aload_n 0, 1) := by decide +kernel
theorem dd_Mo_make_186 : decode bb_Mo_make 186 = .ok (.getfield 96, 3) := by decide +kernel
theorem dd_Mo_make_189 : decode bb_Mo_make 189 = .ok (.iconst 5, 1) := by decide +kernel
theorem dd_Mo_make_190 : decode bb_Mo_make 190 = .ok (.iload_n 1, 1) := by decide +kernel
theorem dd_Mo_make_191 : decode bb_Mo_make 191 = .ok (.imul, 1) := by decide +kernel
theorem dd_Mo_make_192 : decode bb_Mo_make 192 = .ok (.iconst 2, 1) := by decide +kernel
theorem dd_Mo_make_193 : decode bb_Mo_make 193 = .ok (.iadd, 1) := by decide +kernel
theorem dd_Mo_make_194 : decode bb_Mo_make 194 = .ok (.iaload, 1) := by decide +kernel
theorem dd_Mo_make_195 : decode bb_Mo_make 195 = .ok (.istore 5, 2) := by decide +kernel
theorem dd_Mo_make_197 : decode bb_Mo_make 197 = .ok (.aload_n 0, 1) := by decide +kernel
theorem dd_Mo_make_198 : decode bb_Mo_make 198 = .ok (.lload_n 3, 1) := by decide +kernel
theorem dd_Mo_make_199 : decode bb_Mo_make 199 = .ok (.aload_n 0, 1) := by decide +kernel
theorem dd_Mo_make_200 : decode bb_Mo_make 200 = .ok (.iload 5, 2) := by decide +kernel
theorem dd_Mo_make_202 : decode bb_Mo_make 202 = .ok (.invokevirtual 278, 3) := by decide +kernel
theorem dd_Mo_make_205 : decode bb_Mo_make 205 = .ok (.iload 5, 2) := by decide +kernel
theorem dd_Mo_make_207 : decode bb_Mo_make 207 = .ok (.invokestatic 252, 3) := by decide +kernel
theorem dd_Mo_make_210 : decode bb_Mo_make 210 = .ok (.invokestatic 281, 3) := by decide +kernel
theorem dd_Mo_make_213 : decode bb_Mo_make 213 = .ok (.l2i, 1) := by decide +kernel
theorem dd_Mo_make_214 : decode bb_Mo_make 214 = .ok (.invokevirtual 271, 3) := by decide +kernel
theorem dd_Mo_make_217 : decode bb_Mo_make 217 = .ok (.aload_n 0, 1) := by decide +kernel
theorem dd_Mo_make_218 : decode bb_Mo_make 218 = .ok (.getfield 105, 3) := by decide +kernel
theorem dd_Mo_make_221 : decode bb_Mo_make 221 = .ok (.iconst 1, 1) := by decide +kernel
theorem dd_Mo_make_222 : decode bb_Mo_make 222 = .ok (.aload_n 0, 1) := by decide +kernel
theorem dd_Mo_make_223 : decode bb_Mo_make 223 = .ok (.getfield 263, 3) := by decide +kernel
theorem dd_Mo_make_226 : decode bb_Mo_make 226 = .ok (.iconst 2, 1) := by decide +kernel
theorem dd_Mo_make_227 : decode bb_Mo_make 227 = .ok (.isub, 1) := by decide +kernel
theorem dd_Mo_make_228 : decode bb_Mo_make 228 = .ok (.iastore, 1) := by decide +kernel
theorem dd_Mo_make_229 : decode bb_Mo_make 229 = .ok (.return_, 1) := by decide +kernel
theorem dd_Mo_out_0 : decode bb_Mo_out 0 = .ok (.aload_n 0, 1) := by decide +kernel
theorem dd_Mo_out_1 : decode bb_Mo_out 1 = .ok (.getfield 105, 3) := by decide +kernel
theorem dd_Mo_out_4 : decode bb_Mo_out 4 = .ok (.aload_n 0, 1) := by decide +kernel
theorem dd_Mo_out_5 : decode bb_Mo_out 5 = .ok (.getfield 263, 3) := by decide +kernel
theorem dd_Mo_out_8 : decode bb_Mo_out 8 = .ok (.iload_n 1, 1) := by decide +kernel
theorem dd_Mo_out_9 : decode bb_Mo_out 9 = .ok (.iastore, 1) := by decide +kernel
theorem dd_Mo_out_10 : decode bb_Mo_out 10 = .ok (.aload_n 0, 1) := by decide +kernel
theorem dd_Mo_out_11 : decode bb_Mo_out 11 = .ok (.dup, 1) := by decide +kernel
theorem dd_Mo_out_12 : decode bb_Mo_out 12 = .ok (.getfield 263, 3) := by decide +kernel
theorem dd_Mo_out_15 : decode bb_Mo_out 15 = .ok (.iconst 1, 1) := by decide +kernel
theorem dd_Mo_out_16 : decode bb_Mo_out 16 = .ok (.iadd, 1) := by decide +kernel
theorem dd_Mo_out_17 : decode bb_Mo_out 17 = .ok (.putfield 263, 3) := by decide +kernel
theorem dd_Mo_out_20 : decode bb_Mo_out 20 = .ok (.return_, 1) := by decide +kernel
theorem dd_Mo_outNumber_0 : decode bb_Mo_outNumber 0 = .ok (.iload_n 1, 1) := by decide +kernel
theorem dd_Mo_outNumber_1 : decode bb_Mo_outNumber 1 = .ok (.sipush (128), 3) := by decide +kernel
theorem dd_Mo_outNumber_4 : decode bb_Mo_outNumber 4 = .ok (.if_icmp .ge (7), 3) := by decide +kernel
theorem dd_Mo_outNumber_7 : decode bb_Mo_outNumber 7 = .ok (.iconst 1, 1) := by decide +kernel
theorem dd_Mo_outNumber_8 : decode bb_Mo_outNumber 8 = .ok (.goto (26), 3) := by decide +kernel
theorem dd_Mo_outNumber_11 : decode bb_Mo_outNumber 11 = .ok (.iload_n 1, 1) := by decide +kernel
theorem dd_Mo_outNumber_12 : decode bb_Mo_outNumber 12 = .ok (.ldc_w 266, 3) := by decide +kernel
theorem dd_Mo_outNumber_15 : decode bb_Mo_outNumber 15 = .ok (.if_icmp .ge (7), 3) := by decide +kernel
theorem dd_Mo_outNumber_18 : decode bb_Mo_outNumber 18 = .ok (.iconst 2, 1) := by decide +kernel
theorem dd_Mo_outNumber_19 : decode bb_Mo_outNumber 19 = .ok (.goto (15), 3) := by decide +kernel
theorem dd_Mo_outNumber_22 : decode bb_Mo_outNumber 22 = .ok (.iload_n 1, 1) := by decide +kernel
theorem dd_Mo_outNumber_23 : decode bb_Mo_outNumber 23 = .ok (.ldc_w 267, 3) := by decide +kernel
theorem dd_Mo_outNumber_26 : decode bb_Mo_outNumber 26 = .ok (.if_icmp .ge (7), 3) := by decide +kernel
theorem dd_Mo_outNumber_29 : decode bb_Mo_outNumber 29 = .ok (.iconst 3, 1) := by decide +kernel
theorem dd_Mo_outNumber_30 : decode bb_Mo_outNumber 30 = .ok (.goto (4), 3) := by decide +kernel
theorem dd_Mo_outNumber_33 : decode bb_Mo_outNumber 33 = .ok (.iconst 4, 1) := by decide +kernel
theorem dd_Mo_outNumber_34 : decode bb_Mo_outNumber 34 = .ok (.istore_n 2, 1) := by decide +kernel
theorem dd_Mo_outNumber_35 : decode bb_Mo_outNumber 35 = .ok (.aload_n 0, 1) := by decide +kernel
theorem dd_Mo_outNumber_36 : decode bb_Mo_outNumber 36 = .ok (.iconst 2, 1) := by decide +kernel
theorem dd_Mo_outNumber_37 : decode bb_Mo_outNumber 37 = .ok (.invokevirtual 268, 3) := by decide +kernel
theorem dd_Mo_outNumber_40 : decode bb_Mo_outNumber 40 = .ok (.aload_n 0, 1) := by decide +kernel
theorem dd_Mo_outNumber_41 : decode bb_Mo_outNumber 41 = .ok (.iload_n 2, 1) := by decide +kernel
theorem dd_Mo_outNumber_42 : decode bb_Mo_outNumber 42 = .ok (.invokevirtual 268, 3) := by decide +kernel
theorem dd_Mo_outNumber_45 : decode bb_Mo_outNumber 45 = .ok (.iload_n 2, 1) := by decide +kernel
theorem dd_Mo_outNumber_46 : decode bb_Mo_outNumber 46 = .ok (.iconst 1, 1) := by decide +kernel
theorem dd_Mo_outNumber_47 : decode bb_Mo_outNumber 47 = .ok (.isub, 1) := by decide +kernel
theorem dd_Mo_outNumber_48 : decode bb_Mo_outNumber 48 = .ok (.istore_n 3, 1) := by decide +kernel
theorem dd_Mo_outNumber_49 : decode bb_Mo_outNumber 49 = .ok (.iload_n 3, 1) := by decide +kernel
theorem dd_Mo_outNumber_50 : decode bb_Mo_outNumber 50 = .ok (.ifCond .lt (23), 3) := by decide +kernel
theorem dd_Mo_outNumber_53 : decode bb_Mo_outNumber 53 = .ok (.aload_n 0, 1) := by decide +kernel
theorem dd_Mo_outNumber_54 : decode bb_Mo_outNumber 54 = .ok (.iload_n 1, 1) := by decide +kernel
theorem dd_Mo_outNumber_55 : decode bb_Mo_outNumber 55 = .ok (.bipush (8), 2) := by decide +kernel
theorem dd_Mo_outNumber_57 : decode bb_Mo_outNumber 57 = .ok (.iload_n 3, 1) := by decide +kernel
theorem dd_Mo_outNumber_58 : decode bb_Mo_outNumber 58 = .ok (.imul, 1) := by decide +kernel
theorem dd_Mo_outNumber_59 : decode bb_Mo_outNumber 59 = .ok (.ishr, 1) := by decide +kernel
theorem dd_Mo_outNumber_60 : decode bb_Mo_outNumber 60 = .ok (.sipush (255), 3) := by decide +kernel
theorem dd_Mo_outNumber_63 : decode bb_Mo_outNumber 63 = .ok (.iand, 1) := by decide +kernel
theorem dd_Mo_outNumber_64 : decode bb_Mo_outNumber 64 = .ok (.invokevirtual 268, 3) := by decide +kernel
theorem dd_Mo_outNumber_67 : decode bb_Mo_outNumber 67 = .ok (.iinc 3 (-1), 3) := by decide +kernel
theorem dd_Mo_outNumber_70 : decode bb_Mo_outNumber 70 = .ok (.goto (-21), 3) := by decide +kernel
theorem dd_Mo_outNumber_73 : decode bb_Mo_outNumber 73 = .ok (.return_, 1) := by decide +kernel
theorem dd_Mo_mix_0 : decode bb_Mo_mix 0 = .ok (.lload_n 0, 1) := by decide +kernel
theorem dd_Mo_mix_1 : decode bb_Mo_mix 1 = .ok (.ldc2_w 259, 3) := by decide +kernel
theorem dd_Mo_mix_4 : decode bb_Mo_mix 4 = .ok (.lmul, 1) := by decide +kernel
theorem dd_Mo_mix_5 : decode bb_Mo_mix 5 = .ok (.iload_n 2, 1) := by decide +kernel
theorem dd_Mo_mix_6 : decode bb_Mo_mix 6 = .ok (.i2l, 1) := by decide +kernel
theorem dd_Mo_mix_7 : decode bb_Mo_mix 7 = .ok (.ladd, 1) := by decide +kernel
theorem dd_Mo_mix_8 : decode bb_Mo_mix 8 = .ok (.lconst 1, 1) := by decide +kernel
theorem dd_Mo_mix_9 : decode bb_Mo_mix 9 = .ok (.ladd, 1) := by decide +kernel
theorem dd_Mo_mix_10 : decode bb_Mo_mix 10 = .ok (.ldc2_w 261, 3) := by decide +kernel
theorem dd_Mo_mix_13 : decode bb_Mo_mix 13 = .ok (.lrem, 1) := by decide +kernel
theorem dd_Mo_mix_14 : decode bb_Mo_mix 14 = .ok (.lreturn, 1) := by decide +kernel
theorem dd_Mo_secretOf_0 : decode bb_Mo_secretOf 0 = .ok (.aload_n 0, 1) := by decide +kernel
theorem dd_Mo_secretOf_1 : decode bb_Mo_secretOf 1 = .ok (.getfield 25, 3) := by decide +kernel
theorem dd_Mo_secretOf_4 : decode bb_Mo_secretOf 4 = .ok (.iload_n 1, 1) := by decide +kernel
theorem dd_Mo_secretOf_5 : decode bb_Mo_secretOf 5 = .ok (.iconst 4, 1) := by decide +kernel
theorem dd_Mo_secretOf_6 : decode bb_Mo_secretOf 6 = .ok (.irem, 1) := by decide +kernel
theorem dd_Mo_secretOf_7 : decode bb_Mo_secretOf 7 = .ok (.laload, 1) := by decide +kernel
theorem dd_Mo_secretOf_8 : decode bb_Mo_secretOf 8 = .ok (.lconst 0, 1) := by decide +kernel
theorem dd_Mo_secretOf_9 : decode bb_Mo_secretOf 9 = .ok (.lcmp, 1) := by decide +kernel
theorem dd_Mo_secretOf_10 : decode bb_Mo_secretOf 10 = .ok (.ifCond .ne (63), 3) := by decide +kernel
theorem dd_Mo_secretOf_13 : decode bb_Mo_secretOf 13 = .ok (.iload_n 1, 1) := by decide +kernel
theorem dd_Mo_secretOf_14 : decode bb_Mo_secretOf 14 = .ok (.invokestatic 248, 3) := by decide +kernel
theorem dd_Mo_secretOf_17 : decode bb_Mo_secretOf 17 = .ok (.lstore_n 2, 1) := by decide +kernel
theorem dd_Mo_secretOf_18 : decode bb_Mo_secretOf 18 = .ok (.lload_n 2, 1) := by decide +kernel
theorem dd_Mo_secretOf_19 : decode bb_Mo_secretOf 19 = .ok (.lconst 1, 1) := by decide +kernel
theorem dd_Mo_secretOf_20 : decode bb_Mo_secretOf 20 = .ok (.lsub, 1) := by decide +kernel
theorem dd_Mo_secretOf_21 : decode bb_Mo_secretOf 21 = .ok (.iload_n 1, 1) := by decide +kernel
theorem dd_Mo_secretOf_22 : decode bb_Mo_secretOf 22 = .ok (.invokestatic 252, 3) := by decide +kernel
theorem dd_Mo_secretOf_25 : decode bb_Mo_secretOf 25 = .ok (.lload_n 2, 1) := by decide +kernel
theorem dd_Mo_secretOf_26 : decode bb_Mo_secretOf 26 = .ok (.ldiv, 1) := by decide +kernel
theorem dd_Mo_secretOf_27 : decode bb_Mo_secretOf 27 = .ok (.lconst 1, 1) := by decide +kernel
theorem dd_Mo_secretOf_28 : decode bb_Mo_secretOf 28 = .ok (.lsub, 1) := by decide +kernel
theorem dd_Mo_secretOf_29 : decode bb_Mo_secretOf 29 = .ok (.lmul, 1) := by decide +kernel
theorem dd_Mo_secretOf_30 : decode bb_Mo_secretOf 30 = .ok (.lstore 4, 2) := by decide +kernel
theorem dd_Mo_secretOf_32 : decode bb_Mo_secretOf 32 = .ok (.lconst 1, 1) := by decide +kernel
theorem dd_Mo_secretOf_33 : decode bb_Mo_secretOf 33 = .ok (.lload 4, 2) := by decide +kernel
theorem dd_Mo_secretOf_35 : decode bb_Mo_secretOf 35 = .ok (.ladd, 1) := by decide +kernel
theorem dd_Mo_secretOf_36 : decode bb_Mo_secretOf 36 = .ok (.lstore 6, 2) := by decide +kernel
theorem dd_Mo_secretOf_38 : decode bb_Mo_secretOf 38 = .ok (.lload 6, 2) := by decide +kernel
theorem dd_Mo_secretOf_40 : decode bb_Mo_secretOf 40 = .ok (.ldc2_w 255, 3) := by decide +kernel
theorem dd_Mo_secretOf_43 : decode bb_Mo_secretOf 43 = .ok (.lrem, 1) := by decide +kernel
theorem dd_Mo_secretOf_44 : decode bb_Mo_secretOf 44 = .ok (.lconst 0, 1) := by decide +kernel
theorem dd_Mo_secretOf_45 : decode bb_Mo_secretOf 45 = .ok (.lcmp, 1) := by decide +kernel
theorem dd_Mo_secretOf_46 : decode bb_Mo_secretOf 46 = .ok (.ifCond .eq (13), 3) := by decide +kernel
theorem dd_Mo_secretOf_49 : decode bb_Mo_secretOf 49 = .ok (.lload 6, 2) := by decide +kernel
theorem dd_Mo_secretOf_51 : decode bb_Mo_secretOf 51 = .ok (.lload 4, 2) := by decide +kernel
theorem dd_Mo_secretOf_53 : decode bb_Mo_secretOf 53 = .ok (.ladd, 1) := by decide +kernel
theorem dd_Mo_secretOf_54 : decode bb_Mo_secretOf 54 = .ok (.lstore 6, 2) := by decide +kernel
theorem dd_Mo_secretOf_56 : decode bb_Mo_secretOf 56 = .ok (.goto (-18), 3) := by decide +kernel
theorem dd_Mo_secretOf_59 : decode bb_Mo_secretOf 59 = .ok (.aload_n 0, 1) := by decide +kernel
theorem dd_Mo_secretOf_60 : decode bb_Mo_secretOf 60 = .ok (.getfield 25, 3) := by decide +kernel
theorem dd_Mo_secretOf_63 : decode bb_Mo_secretOf 63 = .ok (.iload_n 1, 1) := by decide +kernel
theorem dd_Mo_secretOf_64 : decode bb_Mo_secretOf 64 = .ok (.iconst 4, 1) := by decide +kernel
theorem dd_Mo_secretOf_65 : decode bb_Mo_secretOf 65 = .ok (.irem, 1) := by decide +kernel
theorem dd_Mo_secretOf_66 : decode bb_Mo_secretOf 66 = .ok (.lload 6, 2) := by decide +kernel
theorem dd_Mo_secretOf_68 : decode bb_Mo_secretOf 68 = .ok (.ldc2_w 255, 3) := by decide +kernel
theorem dd_Mo_secretOf_71 : decode bb_Mo_secretOf 71 = .ok (.ldiv, 1) := by decide +kernel
theorem dd_Mo_secretOf_72 : decode bb_Mo_secretOf 72 = .ok (.lastore, 1) := by decide +kernel
theorem dd_Mo_secretOf_73 : decode bb_Mo_secretOf 73 = .ok (.aload_n 0, 1) := by decide +kernel
theorem dd_Mo_secretOf_74 : decode bb_Mo_secretOf 74 = .ok (.getfield 25, 3) := by decide +kernel
theorem dd_Mo_secretOf_77 : decode bb_Mo_secretOf 77 = .ok (.iload_n 1, 1) := by decide +kernel
theorem dd_Mo_secretOf_78 : decode bb_Mo_secretOf 78 = .ok (.iconst 4, 1) := by decide +kernel
theorem dd_Mo_secretOf_79 : decode bb_Mo_secretOf 79 = .ok (.irem, 1) := by decide +kernel
theorem dd_Mo_secretOf_80 : decode bb_Mo_secretOf 80 = .ok (.laload, 1) := by decide +kernel
theorem dd_Mo_secretOf_81 : decode bb_Mo_secretOf 81 = .ok (.lreturn, 1) := by decide +kernel
theorem dd_Mo_factor_0 : decode bb_Mo_factor 0 = .ok (.iload_n 0, 1) := by decide +kernel
theorem dd_Mo_factor_1 : decode bb_Mo_factor 1 = .ok (.iconst 4, 1) := by decide +kernel
theorem dd_Mo_factor_2 : decode bb_Mo_factor 2 = .ok (.irem, 1) := by decide +kernel
theorem dd_Mo_factor_3 : decode bb_Mo_factor 3 = .ok (.ifCond .ne (9), 3) := by decide +kernel
theorem dd_Mo_factor_6 : decode bb_Mo_factor 6 = .ok (.ldc2_w 240, 3) := by decide +kernel
theorem dd_Mo_factor_9 : decode bb_Mo_factor 9 = .ok (.goto (32), 3) := by decide +kernel
theorem dd_Mo_factor_12 : decode bb_Mo_factor 12 = .ok (.iload_n 0, 1) := by decide +kernel
theorem dd_Mo_factor_13 : decode bb_Mo_factor 13 = .ok (.iconst 4, 1) := by decide +kernel
theorem dd_Mo_factor_14 : decode bb_Mo_factor 14 = .ok (.irem, 1) := by decide +kernel
theorem dd_Mo_factor_15 : decode bb_Mo_factor 15 = .ok (.iconst 1, 1) := by decide +kernel
theorem dd_Mo_factor_16 : decode bb_Mo_factor 16 = .ok (.if_icmp .ne (9), 3) := by decide +kernel
theorem dd_Mo_factor_19 : decode bb_Mo_factor 19 = .ok (.ldc2_w 242, 3) := by decide +kernel
theorem dd_Mo_factor_22 : decode bb_Mo_factor 22 = .ok (.goto (19), 3) := by decide +kernel
theorem dd_Mo_factor_25 : decode bb_Mo_factor 25 = .ok (.iload_n 0, 1) := by decide +kernel
theorem dd_Mo_factor_26 : decode bb_Mo_factor 26 = .ok (.iconst 4, 1) := by decide +kernel
theorem dd_Mo_factor_27 : decode bb_Mo_factor 27 = .ok (.irem, 1) := by decide +kernel
theorem dd_Mo_factor_28 : decode bb_Mo_factor 28 = .ok (.iconst 2, 1) := by decide +kernel
theorem dd_Mo_factor_29 : decode bb_Mo_factor 29 = .ok (.if_icmp .ne (9), 3) := by decide +kernel
theorem dd_Mo_factor_32 : decode bb_Mo_factor 32 = .ok (.ldc2_w 244, 3) := by decide +kernel
theorem dd_Mo_factor_35 : decode bb_Mo_factor 35 = .ok (.goto (6), 3) := by decide +kernel
theorem dd_Mo_factor_38 : decode bb_Mo_factor 38 = .ok (.ldc2_w 246, 3) := by decide +kernel
theorem dd_Mo_factor_41 : decode bb_Mo_factor 41 = .ok (.lreturn, 1) := by decide +kernel
theorem dd_Mo_modulus_0 : decode bb_Mo_modulus 0 = .ok (.iload_n 0, 1) := by decide +kernel
theorem dd_Mo_modulus_1 : decode bb_Mo_modulus 1 = .ok (.iconst 4, 1) := by decide +kernel
theorem dd_Mo_modulus_2 : decode bb_Mo_modulus 2 = .ok (.irem, 1) := by decide +kernel
theorem dd_Mo_modulus_3 : decode bb_Mo_modulus 3 = .ok (.ifCond .ne (9), 3) := by decide +kernel
theorem dd_Mo_modulus_6 : decode bb_Mo_modulus 6 = .ok (.ldc2_w 232, 3) := by decide +kernel
theorem dd_Mo_modulus_9 : decode bb_Mo_modulus 9 = .ok (.goto (32), 3) := by decide +kernel
theorem dd_Mo_modulus_12 : decode bb_Mo_modulus 12 = .ok (.iload_n 0, 1) := by decide +kernel
theorem dd_Mo_modulus_13 : decode bb_Mo_modulus 13 = .ok (.iconst 4, 1) := by decide +kernel
theorem dd_Mo_modulus_14 : decode bb_Mo_modulus 14 = .ok (.irem, 1) := by decide +kernel
theorem dd_Mo_modulus_15 : decode bb_Mo_modulus 15 = .ok (.iconst 1, 1) := by decide +kernel
theorem dd_Mo_modulus_16 : decode bb_Mo_modulus 16 = .ok (.if_icmp .ne (9), 3) := by decide +kernel
theorem dd_Mo_modulus_19 : decode bb_Mo_modulus 19 = .ok (.ldc2_w 234, 3) := by decide +kernel
theorem dd_Mo_modulus_22 : decode bb_Mo_modulus 22 = .ok (.goto (19), 3) := by decide +kernel
theorem dd_Mo_modulus_25 : decode bb_Mo_modulus 25 = .ok (.iload_n 0, 1) := by decide +kernel
theorem dd_Mo_modulus_26 : decode bb_Mo_modulus 26 = .ok (.iconst 4, 1) := by decide +kernel
theorem dd_Mo_modulus_27 : decode bb_Mo_modulus 27 = .ok (.irem, 1) := by decide +kernel
theorem dd_Mo_modulus_28 : decode bb_Mo_modulus 28 = .ok (.iconst 2, 1) := by decide +kernel
theorem dd_Mo_modulus_29 : decode bb_Mo_modulus 29 = .ok (.if_icmp .ne (9), 3) := by decide +kernel
theorem dd_Mo_modulus_32 : decode bb_Mo_modulus 32 = .ok (.ldc2_w 236, 3) := by decide +kernel
theorem dd_Mo_modulus_35 : decode bb_Mo_modulus 35 = .ok (.goto (6), 3) := by decide +kernel
theorem dd_Mo_modulus_38 : decode bb_Mo_modulus 38 = .ok (.ldc2_w 238, 3) := by decide +kernel
theorem dd_Mo_modulus_41 : decode bb_Mo_modulus 41 = .ok (.lreturn, 1) := by decide +kernel
theorem dd_Mo_power_0 : decode bb_Mo_power 0 = .ok (.lconst 1, 1) := by decide +kernel
theorem dd_Mo_power_1 : decode bb_Mo_power 1 = .ok (.lstore 6, 2) := by decide +kernel
theorem dd_Mo_power_3 : decode bb_Mo_power 3 = .ok (.lload_n 0, 1) := by decide +kernel
theorem dd_Mo_power_4 : decode bb_Mo_power 4 = .ok (.lload 4, 2) := by decide +kernel
theorem dd_Mo_power_6 : decode bb_Mo_power 6 = .ok (.lrem, 1) := by decide +kernel
theorem dd_Mo_power_7 : decode bb_Mo_power 7 = .ok (.lstore 8, 2) := by decide +kernel
theorem dd_Mo_power_9 : decode bb_Mo_power 9 = .ok (.lload_n 2, 1) := by decide +kernel
theorem dd_Mo_power_10 : decode bb_Mo_power 10 = .ok (.lstore 10, 2) := by decide +kernel
theorem dd_Mo_power_12 : decode bb_Mo_power 12 = .ok (.lload 10, 2) := by decide +kernel
theorem dd_Mo_power_14 : decode bb_Mo_power 14 = .ok (.lconst 0, 1) := by decide +kernel
theorem dd_Mo_power_15 : decode bb_Mo_power 15 = .ok (.lcmp, 1) := by decide +kernel
theorem dd_Mo_power_16 : decode bb_Mo_power 16 = .ok (.ifCond .le (50), 3) := by decide +kernel
theorem dd_Mo_power_19 : decode bb_Mo_power 19 = .ok (.lload 10, 2) := by decide +kernel
theorem dd_Mo_power_21 : decode bb_Mo_power 21 = .ok (.ldc2_w 257, 3) := by decide +kernel
theorem dd_Mo_power_24 : decode bb_Mo_power 24 = .ok (.lrem, 1) := by decide +kernel
theorem dd_Mo_power_25 : decode bb_Mo_power 25 = .ok (.lconst 1, 1) := by decide +kernel
theorem dd_Mo_power_26 : decode bb_Mo_power 26 = .ok (.lcmp, 1) := by decide +kernel
theorem dd_Mo_power_27 : decode bb_Mo_power 27 = .ok (.ifCond .ne (14), 3) := by decide +kernel
theorem dd_Mo_power_30 : decode bb_Mo_power 30 = .ok (.lload 6, 2) := by decide +kernel
theorem dd_Mo_power_32 : decode bb_Mo_power 32 = .ok (.lload 8, 2) := by decide +kernel
theorem dd_Mo_power_34 : decode bb_Mo_power 34 = .ok (.lmul, 1) := by decide +kernel
theorem dd_Mo_power_35 : decode bb_Mo_power 35 = .ok (.lload 4, 2) := by decide +kernel
theorem dd_Mo_power_37 : decode bb_Mo_power 37 = .ok (.lrem, 1) := by decide +kernel
theorem dd_Mo_power_38 : decode bb_Mo_power 38 = .ok (.goto (5), 3) := by decide +kernel
theorem dd_Mo_power_41 : decode bb_Mo_power 41 = .ok (.lload 6, 2) := by decide +kernel
theorem dd_Mo_power_43 : decode bb_Mo_power 43 = .ok (.lstore 6, 2) := by decide +kernel
theorem dd_Mo_power_45 : decode bb_Mo_power 45 = .ok (.lload 8, 2) := by decide +kernel
theorem dd_Mo_power_47 : decode bb_Mo_power 47 = .ok (.lload 8, 2) := by decide +kernel
theorem dd_Mo_power_49 : decode bb_Mo_power 49 = .ok (.lmul, 1) := by decide +kernel
theorem dd_Mo_power_50 : decode bb_Mo_power 50 = .ok (.lload 4, 2) := by decide +kernel
theorem dd_Mo_power_52 : decode bb_Mo_power 52 = .ok (.lrem, 1) := by decide +kernel
theorem dd_Mo_power_53 : decode bb_Mo_power 53 = .ok (.lstore 8, 2) := by decide +kernel
theorem dd_Mo_power_55 : decode bb_Mo_power 55 = .ok (.lload 10, 2) := by decide +kernel
theorem dd_Mo_power_57 : decode bb_Mo_power 57 = .ok (.ldc2_w 257, 3) := by decide +kernel
theorem dd_Mo_power_60 : decode bb_Mo_power 60 = .ok (.ldiv, 1) := by decide +kernel
theorem dd_Mo_power_61 : decode bb_Mo_power 61 = .ok (.lstore 10, 2) := by decide +kernel
theorem dd_Mo_power_63 : decode bb_Mo_power 63 = .ok (.goto (-51), 3) := by decide +kernel
theorem dd_Mo_power_66 : decode bb_Mo_power 66 = .ok (.lload 6, 2) := by decide +kernel
theorem dd_Mo_power_68 : decode bb_Mo_power 68 = .ok (.lreturn, 1) := by decide +kernel
theorem dd_Mo_verify_0 : decode bb_Mo_verify 0 = .ok (.aload_n 0, 1) := by decide +kernel
theorem dd_Mo_verify_1 : decode bb_Mo_verify 1 = .ok (.invokevirtual 307, 3) := by decide +kernel
theorem dd_Mo_verify_4 : decode bb_Mo_verify 4 = .ok (.istore_n 1, 1) := by decide +kernel
theorem dd_Mo_verify_5 : decode bb_Mo_verify 5 = .ok (.aload_n 0, 1) := by decide +kernel
theorem dd_Mo_verify_6 : decode bb_Mo_verify 6 = .ok (.iconst 0, 1) := by decide +kernel
theorem dd_Mo_verify_7 : decode bb_Mo_verify 7 = .ok (.putfield 122, 3) := by decide +kernel
theorem dd_Mo_verify_10 : decode bb_Mo_verify 10 = .ok (.iload_n 1, 1) := by decide +kernel
theorem dd_Mo_verify_11 : decode bb_Mo_verify 11 = .ok (.ireturn, 1) := by decide +kernel
theorem dd_Mo_verified_0 : decode bb_Mo_verified 0 = .ok (.aload_n 0, 1) := by decide +kernel
theorem dd_Mo_verified_1 : decode bb_Mo_verified 1 = .ok (.iconst 0, 1) := by decide +kernel
theorem dd_Mo_verified_2 : decode bb_Mo_verified 2 = .ok (.putfield 291, 3) := by decide +kernel
theorem dd_Mo_verified_5 : decode bb_Mo_verified 5 = .ok (.aload_n 0, 1) := by decide +kernel
theorem dd_Mo_verified_6 : decode bb_Mo_verified 6 = .ok (.iconst (-1), 1) := by decide +kernel
theorem dd_Mo_verified_7 : decode bb_Mo_verified 7 = .ok (.putfield 288, 3) := by decide +kernel
theorem dd_Mo_verified_10 : decode bb_Mo_verified 10 = .ok (.aload_n 0, 1) := by decide +kernel
theorem dd_Mo_verified_11 : decode bb_Mo_verified 11 = .ok (.bipush (48), 2) := by decide +kernel
theorem dd_Mo_verified_13 : decode bb_Mo_verified 13 = .ok (.bipush (48), 2) := by decide +kernel
theorem dd_Mo_verified_15 : decode bb_Mo_verified 15 = .ok (.invokevirtual 297, 3) := by decide +kernel
theorem dd_Mo_verified_18 : decode bb_Mo_verified 18 = .ok (.pop, 1) := by decide +kernel
theorem dd_Mo_verified_19 : decode bb_Mo_verified 19 = .ok (.aload_n 0, 1) := by decide +kernel
theorem dd_Mo_verified_20 : decode bb_Mo_verified 20 = .ok (.iconst 0, 1) := by decide +kernel
theorem dd_Mo_verified_21 : decode bb_Mo_verified 21 = .ok (.sipush (255), 3) := by decide +kernel
theorem dd_Mo_verified_24 : decode bb_Mo_verified 24 = .ok (.invokevirtual 297, 3) := by decide +kernel
theorem dd_Mo_verified_27 : decode bb_Mo_verified 27 = .ok (.istore_n 1, 1) := by decide +kernel
theorem dd_Mo_verified_28 : decode bb_Mo_verified 28 = .ok (.aload_n 0, 1) := by decide +kernel
theorem dd_Mo_verified_29 : decode bb_Mo_verified 29 = .ok (.bipush (48), 2) := by decide +kernel
theorem dd_Mo_verified_31 : decode bb_Mo_verified 31 = .ok (.bipush (48), 2) := by decide +kernel
theorem dd_Mo_verified_33 : decode bb_Mo_verified 33 = .ok (.invokevirtual 297, 3) := by decide +kernel
theorem dd_Mo_verified_36 : decode bb_Mo_verified 36 = .ok (.pop, 1) := by decide +kernel
theorem dd_Mo_verified_37 : decode bb_Mo_verified 37 = .ok (.aload_n 0, 1) := by decide +kernel
theorem dd_Mo_verified_38 : decode bb_Mo_verified 38 = .ok (.iconst 0, 1) := by decide +kernel
theorem dd_Mo_verified_39 : decode bb_Mo_verified 39 = .ok (.sipush (255), 3) := by decide +kernel
theorem dd_Mo_verified_42 : decode bb_Mo_verified 42 = .ok (.invokevirtual 297, 3) := by decide +kernel
theorem dd_Mo_verified_45 : decode bb_Mo_verified 45 = .ok (.istore_n 2, 1) := by decide +kernel
theorem dd_Mo_verified_46 : decode bb_Mo_verified 46 = .ok (.aload_n 0, 1) := by decide +kernel
theorem dd_Mo_verified_47 : decode bb_Mo_verified 47 = .ok (.invokevirtual 300, 3) := by decide +kernel
theorem dd_Mo_verified_50 : decode bb_Mo_verified 50 = .ok (.istore_n 3, 1) := by decide +kernel
theorem dd_Mo_verified_51 : decode bb_Mo_verified 51 = .ok (.aload_n 0, 1) := by decide +kernel
theorem dd_Mo_verified_52 : decode bb_Mo_verified 52 = .ok (.invokevirtual 300, 3) := by decide +kernel
theorem dd_Mo_verified_55 : decode bb_Mo_verified 55 = .ok (.istore 4, 2) := by decide +kernel
theorem dd_Mo_verified_57 : decode bb_Mo_verified 57 = .ok (.aload_n 0, 1) := by decide +kernel
theorem dd_Mo_verified_58 : decode bb_Mo_verified 58 = .ok (.invokevirtual 300, 3) := by decide +kernel
theorem dd_Mo_verified_61 : decode bb_Mo_verified 61 = .ok (.istore 5, 2) := by decide +kernel
theorem dd_Mo_verified_63 : decode bb_Mo_verified 63 = .ok (.aload_n 0, 1) := by decide +kernel
theorem dd_Mo_verified_64 : decode bb_Mo_verified 64 = .ok (.invokevirtual 300, 3) := by decide +kernel
theorem dd_Mo_verified_67 : decode bb_Mo_verified 67 = .ok (.istore 6, 2) := by decide +kernel
theorem dd_Mo_verified_69 : decode bb_Mo_verified 69 = .ok (.aload_n 0, 1) := by decide +kernel
theorem dd_Mo_verified_70 : decode bb_Mo_verified 70 = .ok (.invokevirtual 304, 3) := by decide +kernel
theorem dd_Mo_verified_73 : decode bb_Mo_verified 73 = .ok (.aload_n 0, 1) := by decide +kernel
theorem dd_Mo_verified_74 : decode bb_Mo_verified 74 = .ok (.iconst 3, 1) := by decide +kernel
theorem dd_Mo_verified_75 : decode bb_Mo_verified 75 = .ok (.iconst 3, 1) := by decide +kernel
theorem dd_Mo_verified_76 : decode bb_Mo_verified 76 = .ok (.invokevirtual 297, 3) := by decide +kernel
theorem dd_Mo_verified_79 : decode bb_Mo_verified 79 = .ok (.pop, 1) := by decide +kernel
theorem dd_Mo_verified_80 : decode bb_Mo_verified 80 = .ok (.aload_n 0, 1) := by decide +kernel
theorem dd_Mo_verified_81 : decode bb_Mo_verified 81 = .ok (.iconst 2, 1) := by decide +kernel
theorem dd_Mo_verified_82 : decode bb_Mo_verified 82 = .ok (.iconst 2, 1) := by decide +kernel
theorem dd_Mo_verified_83 : decode bb_Mo_verified 83 = .ok (.invokevirtual 297, 3) := by decide +kernel
theorem dd_Mo_verified_86 : decode bb_Mo_verified 86 = .ok (.pop, 1) := by decide +kernel
theorem dd_Mo_verified_87 : decode bb_Mo_verified 87 = .ok (.aload_n 0, 1) := by decide +kernel
theorem dd_Mo_verified_88 : decode bb_Mo_verified 88 = .ok (.bipush (7), 2) := by decide +kernel
theorem dd_Mo_verified_90 : decode bb_Mo_verified 90 = .ok (.bipush (7), 2) := by decide +kernel
theorem dd_Mo_verified_92 : decode bb_Mo_verified 92 = .ok (.invokevirtual 297, 3) := by decide +kernel
theorem dd_Mo_verified_95 : decode bb_Mo_verified 95 = .ok (.pop, 1) := by decide +kernel
theorem dd_Mo_verified_96 : decode bb_Mo_verified 96 = .ok (.aload_n 0, 1) := by decide +kernel
theorem dd_Mo_verified_97 : decode bb_Mo_verified 97 = .ok (.sipush (128), 3) := by decide +kernel
theorem dd_Mo_verified_100 : decode bb_Mo_verified 100 = .ok (.sipush (128), 3) := by decide +kernel
theorem dd_Mo_verified_103 : decode bb_Mo_verified 103 = .ok (.invokevirtual 297, 3) := by decide +kernel
theorem dd_Mo_verified_106 : decode bb_Mo_verified 106 = .ok (.pop, 1) := by decide +kernel
theorem dd_Mo_verified_107 : decode bb_Mo_verified 107 = .ok (.aload_n 0, 1) := by decide +kernel
theorem dd_Mo_verified_108 : decode bb_Mo_verified 108 = .ok (.getfield 291, 3) := by decide +kernel
theorem dd_Mo_verified_111 : decode bb_Mo_verified 111 = .ok (.istore 7, 2) := by decide +kernel
theorem dd_Mo_verified_113 : decode bb_Mo_verified 113 = .ok (.aload_n 0, 1) := by decide +kernel
theorem dd_Mo_verified_114 : decode bb_Mo_verified 114 = .ok (.invokevirtual 300, 3) := by decide +kernel
theorem dd_Mo_verified_117 : decode bb_Mo_verified 117 = .ok (.istore 8, 2) := by decide +kernel
theorem dd_Mo_verified_119 : decode bb_Mo_verified 119 = .ok (.iload_n 2, 1) := by decide +kernel
theorem dd_Mo_verified_120 : decode bb_Mo_verified 120 = .ok (.iload 7, 2) := by decide +kernel
theorem dd_Mo_verified_122 : decode bb_Mo_verified 122 = .ok (.iconst 4, 1) := by decide +kernel
theorem dd_Mo_verified_123 : decode bb_Mo_verified 123 = .ok (.isub, 1) := by decide +kernel
theorem dd_Mo_verified_124 : decode bb_Mo_verified 124 = .ok (.if_icmp .eq (8), 3) := by decide +kernel
theorem dd_Mo_verified_127 : decode bb_Mo_verified 127 = .ok (.aload_n 0, 1) := by decide +kernel
theorem dd_Mo_verified_128 : decode bb_Mo_verified 128 = .ok (.iconst 3, 1) := by decide +kernel
theorem dd_Mo_verified_129 : decode bb_Mo_verified 129 = .ok (.invokevirtual 294, 3) := by decide +kernel
theorem dd_Mo_verified_132 : decode bb_Mo_verified 132 = .ok (.aload_n 0, 1) := by decide +kernel
theorem dd_Mo_verified_133 : decode bb_Mo_verified 133 = .ok (.getfield 291, 3) := by decide +kernel
theorem dd_Mo_verified_136 : decode bb_Mo_verified 136 = .ok (.aload_n 0, 1) := by decide +kernel
theorem dd_Mo_verified_137 : decode bb_Mo_verified 137 = .ok (.getfield 122, 3) := by decide +kernel
theorem dd_Mo_verified_140 : decode bb_Mo_verified 140 = .ok (.if_icmp .ge (11), 3) := by decide +kernel
theorem dd_Mo_verified_143 : decode bb_Mo_verified 143 = .ok (.aload_n 0, 1) := by decide +kernel
theorem dd_Mo_verified_144 : decode bb_Mo_verified 144 = .ok (.aload_n 0, 1) := by decide +kernel
theorem dd_Mo_verified_145 : decode bb_Mo_verified 145 = .ok (.getfield 291, 3) := by decide +kernel
theorem dd_Mo_verified_148 : decode bb_Mo_verified 148 = .ok (.invokevirtual 294, 3) := by decide +kernel
theorem dd_Mo_verified_151 : decode bb_Mo_verified 151 = .ok (.iload_n 1, 1) := by decide +kernel
theorem dd_Mo_verified_152 : decode bb_Mo_verified 152 = .ok (.aload_n 0, 1) := by decide +kernel
theorem dd_Mo_verified_153 : decode bb_Mo_verified 153 = .ok (.getfield 122, 3) := by decide +kernel
theorem dd_Mo_verified_156 : decode bb_Mo_verified 156 = .ok (.iconst 2, 1) := by decide +kernel
theorem dd_Mo_verified_157 : decode bb_Mo_verified 157 = .ok (.isub, 1) := by decide +kernel
theorem dd_Mo_verified_158 : decode bb_Mo_verified 158 = .ok (.if_icmp .eq (8), 3) := by decide +kernel
theorem dd_Mo_verified_161 : decode bb_Mo_verified 161 = .ok (.aload_n 0, 1) := by decide +kernel
theorem dd_Mo_verified_162 : decode bb_Mo_verified 162 = .ok (.iconst 1, 1) := by decide +kernel
theorem dd_Mo_verified_163 : decode bb_Mo_verified 163 = .ok (.invokevirtual 294, 3) := by decide +kernel
theorem dd_Mo_verified_166 : decode bb_Mo_verified 166 = .ok (.aload_n 0, 1) := by decide +kernel
theorem dd_Mo_verified_167 : decode bb_Mo_verified 167 = .ok (.getfield 288, 3) := by decide +kernel
theorem dd_Mo_verified_170 : decode bb_Mo_verified 170 = .ok (.ifCond .lt (10), 3) := by decide +kernel
theorem dd_Mo_verified_173 : decode bb_Mo_verified 173 = .ok (.iconst (-1), 1) := by decide +kernel
theorem dd_Mo_verified_174 : decode bb_Mo_verified 174 = .ok (.aload_n 0, 1) := by decide +kernel
theorem dd_Mo_verified_175 : decode bb_Mo_verified 175 = .ok (.getfield 288, 3) := by decide +kernel
theorem dd_Mo_verified_178 : decode bb_Mo_verified 178 = .ok (.isub, 1) := by decide +kernel
theorem dd_Mo_verified_179 : decode bb_Mo_verified 179 = .ok (.ireturn, 1) := by decide +kernel
theorem dd_Mo_verified_180 : decode bb_Mo_verified 180 = .ok (.aload_n 0, 1) := by decide +kernel
theorem dd_Mo_verified_181 : decode bb_Mo_verified 181 = .ok (.iload 4, 2) := by decide +kernel
theorem dd_Mo_verified_183 : decode bb_Mo_verified 183 = .ok (.invokevirtual 198, 3) := by decide +kernel
theorem dd_Mo_verified_186 : decode bb_Mo_verified 186 = .ok (.ifCond .ne (7), 3) := by decide +kernel
theorem dd_Mo_verified_189 : decode bb_Mo_verified 189 = .ok (.sipush (-1006), 3) := by decide +kernel
theorem dd_Mo_verified_192 : decode bb_Mo_verified 192 = .ok (.ireturn, 1) := by decide +kernel
theorem dd_Mo_verified_193 : decode bb_Mo_verified 193 = .ok (.lconst 1, 1) := by decide +kernel
theorem dd_Mo_verified_194 : decode bb_Mo_verified 194 = .ok (.lstore 9, 2) := by decide +kernel
theorem dd_Mo_verified_196 : decode bb_Mo_verified 196 = .ok (.iconst 2, 1) := by decide +kernel
theorem dd_Mo_verified_197 : decode bb_Mo_verified 197 = .ok (.istore 11, 2) := by decide +kernel
theorem dd_Mo_verified_199 : decode bb_Mo_verified 199 = .ok (.iload 11, 2) := by decide +kernel
theorem dd_Mo_verified_201 : decode bb_Mo_verified 201 = .ok (.iload 7, 2) := by decide +kernel
theorem dd_Mo_verified_203 : decode bb_Mo_verified 203 = .ok (.if_icmp .ge (23), 3) := by decide +kernel
theorem dd_Mo_verified_206 : decode bb_Mo_verified 206 = .ok (.lload 9, 2) := by decide +kernel
theorem dd_Mo_verified_208 : decode bb_Mo_verified 208 = .ok (.aload_n 0, 1) := by decide +kernel
theorem dd_Mo_verified_209 : decode bb_Mo_verified 209 = .ok (.getfield 7, 3) := by decide +kernel
theorem dd_Mo_verified_212 : decode bb_Mo_verified 212 = .ok (.iload 11, 2) := by decide +kernel
theorem dd_Mo_verified_214 : decode bb_Mo_verified 214 = .ok (.iaload, 1) := by decide +kernel
theorem dd_Mo_verified_215 : decode bb_Mo_verified 215 = .ok (.invokestatic 274, 3) := by decide +kernel
theorem dd_Mo_verified_218 : decode bb_Mo_verified 218 = .ok (.lstore 9, 2) := by decide +kernel
theorem dd_Mo_verified_220 : decode bb_Mo_verified 220 = .ok (.iinc 11 (1), 3) := by decide +kernel
theorem dd_Mo_verified_223 : decode bb_Mo_verified 223 = .ok (.goto (-24), 3) := by decide +kernel
theorem dd_Mo_verified_226 : decode bb_Mo_verified 226 = .ok (.iload 8, 2) := by decide +kernel
theorem dd_Mo_verified_228 : decode bb_Mo_verified 228 = .ok (.i2l, 1) := by decide +kernel
theorem dd_Mo_verified_229 : decode bb_Mo_verified 229 = .ok (.iload 4, 2) := by decide +kernel
theorem dd_Mo_verified_231 : decode bb_Mo_verified 231 = .ok (.invokestatic 252, 3) := by decide +kernel
theorem dd_Mo_verified_234 : decode bb_Mo_verified 234 = .ok (.lcmp, 1) := by decide +kernel
theorem dd_Mo_verified_235 : decode bb_Mo_verified 235 = .ok (.ifCond .ge (23), 3) := by decide +kernel
theorem dd_Mo_verified_238 : decode bb_Mo_verified 238 = .ok (.iload 8, 2) := by decide +kernel
theorem dd_Mo_verified_240 : decode bb_Mo_verified 240 = .ok (.i2l, 1) := by decide +kernel
theorem dd_Mo_verified_241 : decode bb_Mo_verified 241 = .ok (.ldc2_w 255, 3) := by decide +kernel
theorem dd_Mo_verified_244 : decode bb_Mo_verified 244 = .ok (.iload 4, 2) := by decide +kernel
theorem dd_Mo_verified_246 : decode bb_Mo_verified 246 = .ok (.invokestatic 252, 3) := by decide +kernel
theorem dd_Mo_verified_249 : decode bb_Mo_verified 249 = .ok (.invokestatic 281, 3) := by decide +kernel
theorem dd_Mo_verified_252 : decode bb_Mo_verified 252 = .ok (.lload 9, 2) := by decide +kernel
theorem dd_Mo_verified_254 : decode bb_Mo_verified 254 = .ok (.lcmp, 1) := by decide +kernel
theorem dd_Mo_verified_255 : decode bb_Mo_verified 255 = .ok (.ifCond .eq (7), 3) := by decide +kernel
theorem dd_Mo_verified_258 : decode bb_Mo_verified 258 = .ok (.sipush (-1007), 3) := by decide +kernel
theorem dd_Mo_verified_261 : decode bb_Mo_verified 261 = .ok (.ireturn, 1) := by decide +kernel
theorem dd_Mo_verified_262 : decode bb_Mo_verified 262 = .ok (.aload_n 0, 1) := by decide +kernel
theorem dd_Mo_verified_263 : decode bb_Mo_verified 263 = .ok (.getfield 180, 3) := by decide +kernel
theorem dd_Mo_verified_266 : decode bb_Mo_verified 266 = .ok (.iload 5, 2) := by decide +kernel
theorem dd_Mo_verified_268 : decode bb_Mo_verified 268 = .ok (.if_icmp .lt (12), 3) := by decide +kernel
theorem dd_Mo_verified_271 : decode bb_Mo_verified 271 = .ok (.aload_n 0, 1) := by decide +kernel
theorem dd_Mo_verified_272 : decode bb_Mo_verified 272 = .ok (.getfield 180, 3) := by decide +kernel
theorem dd_Mo_verified_275 : decode bb_Mo_verified 275 = .ok (.iload 6, 2) := by decide +kernel
theorem dd_Mo_verified_277 : decode bb_Mo_verified 277 = .ok (.if_icmp .lt (9), 3) := by decide +kernel
theorem dd_Mo_verified_280 : decode bb_Mo_verified 280 = .ok (.sipush (-1005), 3) := by decide +kernel
theorem dd_Mo_verified_283 : decode bb_Mo_verified 283 = .ok (.goto (4), 3) := by decide +kernel
theorem dd_Mo_verified_286 : decode bb_Mo_verified 286 = .ok (.iload_n 3, 1) := by decide +kernel
theorem dd_Mo_verified_287 : decode bb_Mo_verified 287 = .ok (.ireturn, 1) := by decide +kernel
theorem dd_Mo_in_0 : decode bb_Mo_in 0 = .ok (.aload_n 0, 1) := by decide +kernel
theorem dd_Mo_in_1 : decode bb_Mo_in 1 = .ok (.getfield 291, 3) := by decide +kernel
theorem dd_Mo_in_4 : decode bb_Mo_in 4 = .ok (.aload_n 0, 1) := by decide +kernel
theorem dd_Mo_in_5 : decode bb_Mo_in 5 = .ok (.getfield 122, 3) := by decide +kernel
theorem dd_Mo_in_8 : decode bb_Mo_in 8 = .ok (.if_icmp .ge (15), 3) := by decide +kernel
theorem dd_Mo_in_11 : decode bb_Mo_in 11 = .ok (.aload_n 0, 1) := by decide +kernel
theorem dd_Mo_in_12 : decode bb_Mo_in 12 = .ok (.getfield 7, 3) := by decide +kernel
theorem dd_Mo_in_15 : decode bb_Mo_in 15 = .ok (.aload_n 0, 1) := by decide +kernel
theorem dd_Mo_in_16 : decode bb_Mo_in 16 = .ok (.getfield 291, 3) := by decide +kernel
theorem dd_Mo_in_19 : decode bb_Mo_in 19 = .ok (.iaload, 1) := by decide +kernel
theorem dd_Mo_in_20 : decode bb_Mo_in 20 = .ok (.goto (4), 3) := by decide +kernel
theorem dd_Mo_in_23 : decode bb_Mo_in 23 = .ok (.iconst (-1), 1) := by decide +kernel
theorem dd_Mo_in_24 : decode bb_Mo_in 24 = .ok (.istore_n 3, 1) := by decide +kernel
theorem dd_Mo_in_25 : decode bb_Mo_in 25 = .ok (.iload_n 3, 1) := by decide +kernel
theorem dd_Mo_in_26 : decode bb_Mo_in 26 = .ok (.iload_n 1, 1) := by decide +kernel
theorem dd_Mo_in_27 : decode bb_Mo_in 27 = .ok (.iload_n 2, 1) := by decide +kernel
theorem dd_Mo_in_28 : decode bb_Mo_in 28 = .ok (.invokestatic 118, 3) := by decide +kernel
theorem dd_Mo_in_31 : decode bb_Mo_in 31 = .ok (.ifCond .eq (11), 3) := by decide +kernel
theorem dd_Mo_in_34 : decode bb_Mo_in 34 = .ok (.aload_n 0, 1) := by decide +kernel
theorem dd_Mo_in_35 : decode bb_Mo_in 35 = .ok (.aload_n 0, 1) := by decide +kernel
theorem dd_Mo_in_36 : decode bb_Mo_in 36 = .ok (.getfield 291, 3) := by decide +kernel
theorem dd_Mo_in_39 : decode bb_Mo_in 39 = .ok (.invokevirtual 294, 3) := by decide +kernel
theorem dd_Mo_in_42 : decode bb_Mo_in 42 = .ok (.aload_n 0, 1) := by decide +kernel
theorem dd_Mo_in_43 : decode bb_Mo_in 43 = .ok (.dup, 1) := by decide +kernel
theorem dd_Mo_in_44 : decode bb_Mo_in 44 = .ok (.getfield 291, 3) := by decide +kernel
theorem dd_Mo_in_47 : decode bb_Mo_in 47 = .ok (.iconst 1, 1) := by decide +kernel
theorem dd_Mo_in_48 : decode bb_Mo_in 48 = .ok (.iadd, 1) := by decide +kernel
theorem dd_Mo_in_49 : decode bb_Mo_in 49 = .ok (.putfield 291, 3) := by decide +kernel
theorem dd_Mo_in_52 : decode bb_Mo_in 52 = .ok (.iload_n 3, 1) := by decide +kernel
theorem dd_Mo_in_53 : decode bb_Mo_in 53 = .ok (.ireturn, 1) := by decide +kernel
theorem dd_Mo_error_0 : decode bb_Mo_error 0 = .ok (.aload_n 0, 1) := by decide +kernel
theorem dd_Mo_error_1 : decode bb_Mo_error 1 = .ok (.getfield 288, 3) := by decide +kernel
theorem dd_Mo_error_4 : decode bb_Mo_error 4 = .ok (.ifCond .ge (23), 3) := by decide +kernel
theorem dd_Mo_error_7 : decode bb_Mo_error 7 = .ok (.aload_n 0, 1) := by decide +kernel
theorem dd_Mo_error_8 : decode bb_Mo_error 8 = .ok (.iload_n 1, 1) := by decide +kernel
theorem dd_Mo_error_9 : decode bb_Mo_error 9 = .ok (.aload_n 0, 1) := by decide +kernel
theorem dd_Mo_error_10 : decode bb_Mo_error 10 = .ok (.getfield 122, 3) := by decide +kernel
theorem dd_Mo_error_13 : decode bb_Mo_error 13 = .ok (.if_icmp .ge (7), 3) := by decide +kernel
theorem dd_Mo_error_16 : decode bb_Mo_error 16 = .ok (.iload_n 1, 1) := by decide +kernel
theorem dd_Mo_error_17 : decode bb_Mo_error 17 = .ok (.goto (7), 3) := by decide +kernel
theorem dd_Mo_error_20 : decode bb_Mo_error 20 = .ok (.aload_n 0, 1) := by decide +kernel
theorem dd_Mo_error_21 : decode bb_Mo_error 21 = .ok (.getfield 122, 3) := by decide +kernel
theorem dd_Mo_error_24 : decode bb_Mo_error 24 = .ok (.putfield 288, 3) := by decide +kernel
theorem dd_Mo_error_27 : decode bb_Mo_error 27 = .ok (.return_, 1) := by decide +kernel
theorem dd_Mo_inNumber_0 : decode bb_Mo_inNumber 0 = .ok (.aload_n 0, 1) := by decide +kernel
theorem dd_Mo_inNumber_1 : decode bb_Mo_inNumber 1 = .ok (.iconst 2, 1) := by decide +kernel
theorem dd_Mo_inNumber_2 : decode bb_Mo_inNumber 2 = .ok (.iconst 2, 1) := by decide +kernel
theorem dd_Mo_inNumber_3 : decode bb_Mo_inNumber 3 = .ok (.invokevirtual 297, 3) := by decide +kernel
theorem dd_Mo_inNumber_6 : decode bb_Mo_inNumber 6 = .ok (.pop, 1) := by decide +kernel
theorem dd_Mo_inNumber_7 : decode bb_Mo_inNumber 7 = .ok (.aload_n 0, 1) := by decide +kernel
theorem dd_Mo_inNumber_8 : decode bb_Mo_inNumber 8 = .ok (.iconst 1, 1) := by decide +kernel
theorem dd_Mo_inNumber_9 : decode bb_Mo_inNumber 9 = .ok (.iconst 4, 1) := by decide +kernel
theorem dd_Mo_inNumber_10 : decode bb_Mo_inNumber 10 = .ok (.invokevirtual 297, 3) := by decide +kernel
theorem dd_Mo_inNumber_13 : decode bb_Mo_inNumber 13 = .ok (.istore_n 1, 1) := by decide +kernel
theorem dd_Mo_inNumber_14 : decode bb_Mo_inNumber 14 = .ok (.iconst 0, 1) := by decide +kernel
theorem dd_Mo_inNumber_15 : decode bb_Mo_inNumber 15 = .ok (.istore_n 2, 1) := by decide +kernel
theorem dd_Mo_inNumber_16 : decode bb_Mo_inNumber 16 = .ok (.aload_n 0, 1) := by decide +kernel
theorem dd_Mo_inNumber_17 : decode bb_Mo_inNumber 17 = .ok (.getfield 291, 3) := by decide +kernel
theorem dd_Mo_inNumber_20 : decode bb_Mo_inNumber 20 = .ok (.istore_n 3, 1) := by decide +kernel
theorem dd_Mo_inNumber_21 : decode bb_Mo_inNumber 21 = .ok (.iconst 0, 1) := by decide +kernel
theorem dd_Mo_inNumber_22 : decode bb_Mo_inNumber 22 = .ok (.istore 4, 2) := by decide +kernel
theorem dd_Mo_inNumber_24 : decode bb_Mo_inNumber 24 = .ok (.iload 4, 2) := by decide +kernel
theorem dd_Mo_inNumber_26 : decode bb_Mo_inNumber 26 = .ok (.iload_n 1, 1) := by decide +kernel
theorem dd_Mo_inNumber_27 : decode bb_Mo_inNumber 27 = .ok (.if_icmp .ge (41), 3) := by decide +kernel
theorem dd_Mo_inNumber_30 : decode bb_Mo_inNumber 30 = .ok (.aload_n 0, 1) := by decide +kernel
theorem dd_Mo_inNumber_31 : decode bb_Mo_inNumber 31 = .ok (.getfield 288, 3) := by decide +kernel
theorem dd_Mo_inNumber_34 : decode bb_Mo_inNumber 34 = .ok (.ifCond .ge (34), 3) := by decide +kernel
theorem dd_Mo_inNumber_37 : decode bb_Mo_inNumber 37 = .ok (.sipush (256), 3) := by decide +kernel
theorem dd_Mo_inNumber_40 : decode bb_Mo_inNumber 40 = .ok (.iload_n 2, 1) := by decide +kernel
theorem dd_Mo_inNumber_41 : decode bb_Mo_inNumber 41 = .ok (.imul, 1) := by decide +kernel
theorem dd_Mo_inNumber_42 : decode bb_Mo_inNumber 42 = .ok (.aload_n 0, 1) := by decide +kernel
theorem dd_Mo_inNumber_43 : decode bb_Mo_inNumber 43 = .ok (.iconst 0, 1) := by decide +kernel
theorem dd_Mo_inNumber_44 : decode bb_Mo_inNumber 44 = .ok (.iload 4, 2) := by decide +kernel
theorem dd_Mo_inNumber_46 : decode bb_Mo_inNumber 46 = .ok (.ifCond .ne (8), 3) := by decide +kernel
theorem dd_Mo_inNumber_49 : decode bb_Mo_inNumber 49 = .ok (.bipush (127), 2) := by decide +kernel
theorem dd_Mo_inNumber_51 : decode bb_Mo_inNumber 51 = .ok (.goto (6), 3) := by decide +kernel
theorem dd_Mo_inNumber_54 : decode bb_Mo_inNumber 54 = .ok (.sipush (255), 3) := by decide +kernel
theorem dd_Mo_inNumber_57 : decode bb_Mo_inNumber 57 = .ok (.invokevirtual 297, 3) := by decide +kernel
theorem dd_Mo_inNumber_60 : decode bb_Mo_inNumber 60 = .ok (.iadd, 1) := by decide +kernel
theorem dd_Mo_inNumber_61 : decode bb_Mo_inNumber 61 = .ok (.istore_n 2, 1) := by decide +kernel
theorem dd_Mo_inNumber_62 : decode bb_Mo_inNumber 62 = .ok (.iinc 4 (1), 3) := by decide +kernel
theorem dd_Mo_inNumber_65 : decode bb_Mo_inNumber 65 = .ok (.goto (-41), 3) := by decide +kernel
theorem dd_Mo_inNumber_68 : decode bb_Mo_inNumber 68 = .ok (.aload_n 0, 1) := by decide +kernel
theorem dd_Mo_inNumber_69 : decode bb_Mo_inNumber 69 = .ok (.getfield 288, 3) := by decide +kernel
theorem dd_Mo_inNumber_72 : decode bb_Mo_inNumber 72 = .ok (.ifCond .ge (36), 3) := by decide +kernel
theorem dd_Mo_inNumber_75 : decode bb_Mo_inNumber 75 = .ok (.iload_n 1, 1) := by decide +kernel
theorem dd_Mo_inNumber_76 : decode bb_Mo_inNumber 76 = .ok (.iconst 1, 1) := by decide +kernel
theorem dd_Mo_inNumber_77 : decode bb_Mo_inNumber 77 = .ok (.if_icmp .le (31), 3) := by decide +kernel
theorem dd_Mo_inNumber_80 : decode bb_Mo_inNumber 80 = .ok (.aload_n 0, 1) := by decide +kernel
theorem dd_Mo_inNumber_81 : decode bb_Mo_inNumber 81 = .ok (.getfield 7, 3) := by decide +kernel
theorem dd_Mo_inNumber_84 : decode bb_Mo_inNumber 84 = .ok (.iload_n 3, 1) := by decide +kernel
theorem dd_Mo_inNumber_85 : decode bb_Mo_inNumber 85 = .ok (.iaload, 1) := by decide +kernel
theorem dd_Mo_inNumber_86 : decode bb_Mo_inNumber 86 = .ok (.ifCond .ne (22), 3) := by decide +kernel
theorem dd_Mo_inNumber_89 : decode bb_Mo_inNumber 89 = .ok (.aload_n 0, 1) := by decide +kernel
theorem dd_Mo_inNumber_90 : decode bb_Mo_inNumber 90 = .ok (.getfield 7, 3) := by decide +kernel
theorem dd_Mo_inNumber_93 : decode bb_Mo_inNumber 93 = .ok (.iload_n 3, 1) := by decide +kernel
theorem dd_Mo_inNumber_94 : decode bb_Mo_inNumber 94 = .ok (.iconst 1, 1) := by decide +kernel
theorem dd_Mo_inNumber_95 : decode bb_Mo_inNumber 95 = .ok (.iadd, 1) := by decide +kernel
theorem dd_Mo_inNumber_96 : decode bb_Mo_inNumber 96 = .ok (.iaload, 1) := by decide +kernel
theorem dd_Mo_inNumber_97 : decode bb_Mo_inNumber 97 = .ok (.sipush (128), 3) := by decide +kernel
theorem dd_Mo_inNumber_100 : decode bb_Mo_inNumber 100 = .ok (.if_icmp .ge (8), 3) := by decide +kernel
theorem dd_Mo_inNumber_103 : decode bb_Mo_inNumber 103 = .ok (.aload_n 0, 1) := by decide +kernel
theorem dd_Mo_inNumber_104 : decode bb_Mo_inNumber 104 = .ok (.iload_n 3, 1) := by decide +kernel
theorem dd_Mo_inNumber_105 : decode bb_Mo_inNumber 105 = .ok (.invokevirtual 294, 3) := by decide +kernel
theorem dd_Mo_inNumber_108 : decode bb_Mo_inNumber 108 = .ok (.iload_n 2, 1) := by decide +kernel
theorem dd_Mo_inNumber_109 : decode bb_Mo_inNumber 109 = .ok (.ireturn, 1) := by decide +kernel
theorem dd_Mo_inId_0 : decode bb_Mo_inId 0 = .ok (.aload_n 0, 1) := by decide +kernel
theorem dd_Mo_inId_1 : decode bb_Mo_inId 1 = .ok (.sipush (134), 3) := by decide +kernel
theorem dd_Mo_inId_4 : decode bb_Mo_inId 4 = .ok (.sipush (134), 3) := by decide +kernel
theorem dd_Mo_inId_7 : decode bb_Mo_inId 7 = .ok (.invokevirtual 297, 3) := by decide +kernel
theorem dd_Mo_inId_10 : decode bb_Mo_inId 10 = .ok (.pop, 1) := by decide +kernel
theorem dd_Mo_inId_11 : decode bb_Mo_inId 11 = .ok (.aload_n 0, 1) := by decide +kernel
theorem dd_Mo_inId_12 : decode bb_Mo_inId 12 = .ok (.iconst 0, 1) := by decide +kernel
theorem dd_Mo_inId_13 : decode bb_Mo_inId 13 = .ok (.sipush (255), 3) := by decide +kernel
theorem dd_Mo_inId_16 : decode bb_Mo_inId 16 = .ok (.invokevirtual 297, 3) := by decide +kernel
theorem dd_Mo_inId_19 : decode bb_Mo_inId 19 = .ok (.istore_n 1, 1) := by decide +kernel
theorem dd_Mo_inId_20 : decode bb_Mo_inId 20 = .ok (.aload_n 0, 1) := by decide +kernel
theorem dd_Mo_inId_21 : decode bb_Mo_inId 21 = .ok (.getfield 288, 3) := by decide +kernel
theorem dd_Mo_inId_24 : decode bb_Mo_inId 24 = .ok (.ifCond .ge (26), 3) := by decide +kernel
theorem dd_Mo_inId_27 : decode bb_Mo_inId 27 = .ok (.iload_n 1, 1) := by decide +kernel
theorem dd_Mo_inId_28 : decode bb_Mo_inId 28 = .ok (.aload_n 0, 1) := by decide +kernel
theorem dd_Mo_inId_29 : decode bb_Mo_inId 29 = .ok (.getfield 122, 3) := by decide +kernel
theorem dd_Mo_inId_32 : decode bb_Mo_inId 32 = .ok (.aload_n 0, 1) := by decide +kernel
theorem dd_Mo_inId_33 : decode bb_Mo_inId 33 = .ok (.getfield 291, 3) := by decide +kernel
theorem dd_Mo_inId_36 : decode bb_Mo_inId 36 = .ok (.isub, 1) := by decide +kernel
theorem dd_Mo_inId_37 : decode bb_Mo_inId 37 = .ok (.if_icmp .le (13), 3) := by decide +kernel
theorem dd_Mo_inId_40 : decode bb_Mo_inId 40 = .ok (.aload_n 0, 1) := by decide +kernel
theorem dd_Mo_inId_41 : decode bb_Mo_inId 41 = .ok (.aload_n 0, 1) := by decide +kernel
theorem dd_Mo_inId_42 : decode bb_Mo_inId 42 = .ok (.getfield 291, 3) := by decide +kernel
theorem dd_Mo_inId_45 : decode bb_Mo_inId 45 = .ok (.iconst 1, 1) := by decide +kernel
theorem dd_Mo_inId_46 : decode bb_Mo_inId 46 = .ok (.isub, 1) := by decide +kernel
theorem dd_Mo_inId_47 : decode bb_Mo_inId 47 = .ok (.invokevirtual 294, 3) := by decide +kernel
theorem dd_Mo_inId_50 : decode bb_Mo_inId 50 = .ok (.aload_n 0, 1) := by decide +kernel
theorem dd_Mo_inId_51 : decode bb_Mo_inId 51 = .ok (.getfield 288, 3) := by decide +kernel
theorem dd_Mo_inId_54 : decode bb_Mo_inId 54 = .ok (.ifCond .ge (15), 3) := by decide +kernel
theorem dd_Mo_inId_57 : decode bb_Mo_inId 57 = .ok (.aload_n 0, 1) := by decide +kernel
theorem dd_Mo_inId_58 : decode bb_Mo_inId 58 = .ok (.aload_n 0, 1) := by decide +kernel
theorem dd_Mo_inId_59 : decode bb_Mo_inId 59 = .ok (.getfield 291, 3) := by decide +kernel
theorem dd_Mo_inId_62 : decode bb_Mo_inId 62 = .ok (.iload_n 1, 1) := by decide +kernel
theorem dd_Mo_inId_63 : decode bb_Mo_inId 63 = .ok (.invokevirtual 147, 3) := by decide +kernel
theorem dd_Mo_inId_66 : decode bb_Mo_inId 66 = .ok (.goto (4), 3) := by decide +kernel
theorem dd_Mo_inId_69 : decode bb_Mo_inId 69 = .ok (.iconst (-1), 1) := by decide +kernel
theorem dd_Mo_inId_70 : decode bb_Mo_inId 70 = .ok (.istore_n 2, 1) := by decide +kernel
theorem dd_Mo_inId_71 : decode bb_Mo_inId 71 = .ok (.iload_n 2, 1) := by decide +kernel
theorem dd_Mo_inId_72 : decode bb_Mo_inId 72 = .ok (.ifCond .lt (13), 3) := by decide +kernel
theorem dd_Mo_inId_75 : decode bb_Mo_inId 75 = .ok (.aload_n 0, 1) := by decide +kernel
theorem dd_Mo_inId_76 : decode bb_Mo_inId 76 = .ok (.aload_n 0, 1) := by decide +kernel
theorem dd_Mo_inId_77 : decode bb_Mo_inId 77 = .ok (.getfield 291, 3) := by decide +kernel
theorem dd_Mo_inId_80 : decode bb_Mo_inId 80 = .ok (.iload_n 2, 1) := by decide +kernel
theorem dd_Mo_inId_81 : decode bb_Mo_inId 81 = .ok (.iadd, 1) := by decide +kernel
theorem dd_Mo_inId_82 : decode bb_Mo_inId 82 = .ok (.putfield 288, 3) := by decide +kernel
theorem dd_Mo_inId_85 : decode bb_Mo_inId 85 = .ok (.aload_n 0, 1) := by decide +kernel
theorem dd_Mo_inId_86 : decode bb_Mo_inId 86 = .ok (.dup, 1) := by decide +kernel
theorem dd_Mo_inId_87 : decode bb_Mo_inId 87 = .ok (.getfield 291, 3) := by decide +kernel
theorem dd_Mo_inId_90 : decode bb_Mo_inId 90 = .ok (.iload_n 1, 1) := by decide +kernel
theorem dd_Mo_inId_91 : decode bb_Mo_inId 91 = .ok (.iadd, 1) := by decide +kernel
theorem dd_Mo_inId_92 : decode bb_Mo_inId 92 = .ok (.putfield 291, 3) := by decide +kernel
theorem dd_Mo_inId_95 : decode bb_Mo_inId 95 = .ok (.return_, 1) := by decide +kernel
theorem dd_Mo_prepare_0 : decode bb_Mo_prepare 0 = .ok (.iconst 0, 1) := by decide +kernel
theorem dd_Mo_prepare_1 : decode bb_Mo_prepare 1 = .ok (.istore_n 1, 1) := by decide +kernel
theorem dd_Mo_prepare_2 : decode bb_Mo_prepare 2 = .ok (.iconst 0, 1) := by decide +kernel
theorem dd_Mo_prepare_3 : decode bb_Mo_prepare 3 = .ok (.istore_n 2, 1) := by decide +kernel
theorem dd_Mo_prepare_4 : decode bb_Mo_prepare 4 = .ok (.iload_n 2, 1) := by decide +kernel
theorem dd_Mo_prepare_5 : decode bb_Mo_prepare 5 = .ok (.aload_n 0, 1) := by decide +kernel
theorem dd_Mo_prepare_6 : decode bb_Mo_prepare 6 = .ok (.getfield 112, 3) := by decide +kernel
theorem dd_Mo_prepare_9 : decode bb_Mo_prepare 9 = .ok (.if_icmp .ge (25), 3) := by decide +kernel
theorem dd_Mo_prepare_12 : decode bb_Mo_prepare 12 = .ok (.aload_n 0, 1) := by decide +kernel
theorem dd_Mo_prepare_13 : decode bb_Mo_prepare 13 = .ok (.iload_n 2, 1) := by decide +kernel
theorem dd_Mo_prepare_14 : decode bb_Mo_prepare 14 = .ok (.invokevirtual 198, 3) := by decide +kernel
theorem dd_Mo_prepare_17 : decode bb_Mo_prepare 17 = .ok (.ifCond .eq (9), 3) := by decide +kernel
theorem dd_Mo_prepare_20 : decode bb_Mo_prepare 20 = .ok (.iload_n 1, 1) := by decide +kernel
theorem dd_Mo_prepare_21 : decode bb_Mo_prepare 21 = .ok (.iconst 1, 1) := by decide +kernel
theorem dd_Mo_prepare_22 : decode bb_Mo_prepare 22 = .ok (.iadd, 1) := by decide +kernel
theorem dd_Mo_prepare_23 : decode bb_Mo_prepare 23 = .ok (.goto (4), 3) := by decide +kernel
theorem dd_Mo_prepare_26 : decode bb_Mo_prepare 26 = .ok (.iload_n 1, 1) := by decide +kernel
theorem dd_Mo_prepare_27 : decode bb_Mo_prepare 27 = .ok (.istore_n 1, 1) := by decide +kernel
theorem dd_Mo_prepare_28 : decode bb_Mo_prepare 28 = .ok (.iinc 2 (1), 3) := by decide +kernel
theorem dd_Mo_prepare_31 : decode bb_Mo_prepare 31 = .ok (.goto (-27), 3) := by decide +kernel
theorem dd_Mo_prepare_34 : decode bb_Mo_prepare 34 = .ok (.aload_n 0, 1) := by decide +kernel
theorem dd_Mo_prepare_35 : decode bb_Mo_prepare 35 = .ok (.aload_n 0, 1) := by decide +kernel
theorem dd_Mo_prepare_36 : decode bb_Mo_prepare 36 = .ok (.getfield 115, 3) := by decide +kernel
theorem dd_Mo_prepare_39 : decode bb_Mo_prepare 39 = .ok (.invokevirtual 198, 3) := by decide +kernel
theorem dd_Mo_prepare_42 : decode bb_Mo_prepare 42 = .ok (.ifCond .ne (8), 3) := by decide +kernel
theorem dd_Mo_prepare_45 : decode bb_Mo_prepare 45 = .ok (.iload_n 1, 1) := by decide +kernel
theorem dd_Mo_prepare_46 : decode bb_Mo_prepare 46 = .ok (.iconst 4, 1) := by decide +kernel
theorem dd_Mo_prepare_47 : decode bb_Mo_prepare 47 = .ok (.if_icmp .lt (7), 3) := by decide +kernel
theorem dd_Mo_prepare_50 : decode bb_Mo_prepare 50 = .ok (.sipush (-1003), 3) := by decide +kernel
theorem dd_Mo_prepare_53 : decode bb_Mo_prepare 53 = .ok (.ireturn, 1) := by decide +kernel
theorem dd_Mo_prepare_54 : decode bb_Mo_prepare 54 = .ok (.aload_n 0, 1) := by decide +kernel
theorem dd_Mo_prepare_55 : decode bb_Mo_prepare 55 = .ok (.getfield 22, 3) := by decide +kernel
theorem dd_Mo_prepare_58 : decode bb_Mo_prepare 58 = .ok (.aload_n 0, 1) := by decide +kernel
theorem dd_Mo_prepare_59 : decode bb_Mo_prepare 59 = .ok (.getfield 112, 3) := by decide +kernel
theorem dd_Mo_prepare_62 : decode bb_Mo_prepare 62 = .ok (.aload_n 0, 1) := by decide +kernel
theorem dd_Mo_prepare_63 : decode bb_Mo_prepare 63 = .ok (.getfield 180, 3) := by decide +kernel
theorem dd_Mo_prepare_66 : decode bb_Mo_prepare 66 = .ok (.iastore, 1) := by decide +kernel
theorem dd_Mo_prepare_67 : decode bb_Mo_prepare 67 = .ok (.aload_n 0, 1) := by decide +kernel
theorem dd_Mo_prepare_68 : decode bb_Mo_prepare 68 = .ok (.aload_n 0, 1) := by decide +kernel
theorem dd_Mo_prepare_69 : decode bb_Mo_prepare 69 = .ok (.getfield 112, 3) := by decide +kernel
theorem dd_Mo_prepare_72 : decode bb_Mo_prepare 72 = .ok (.putfield 115, 3) := by decide +kernel
theorem dd_Mo_prepare_75 : decode bb_Mo_prepare 75 = .ok (.aload_n 0, 1) := by decide +kernel
theorem dd_Mo_prepare_76 : decode bb_Mo_prepare 76 = .ok (.dup, 1) := by decide +kernel
theorem dd_Mo_prepare_77 : decode bb_Mo_prepare 77 = .ok (.getfield 112, 3) := by decide +kernel
theorem dd_Mo_prepare_80 : decode bb_Mo_prepare 80 = .ok (.iconst 1, 1) := by decide +kernel
theorem dd_Mo_prepare_81 : decode bb_Mo_prepare 81 = .ok (.iadd, 1) := by decide +kernel
theorem dd_Mo_prepare_82 : decode bb_Mo_prepare 82 = .ok (.putfield 112, 3) := by decide +kernel
theorem dd_Mo_prepare_85 : decode bb_Mo_prepare 85 = .ok (.aload_n 0, 1) := by decide +kernel
theorem dd_Mo_prepare_86 : decode bb_Mo_prepare 86 = .ok (.getfield 115, 3) := by decide +kernel
theorem dd_Mo_prepare_89 : decode bb_Mo_prepare 89 = .ok (.ireturn, 1) := by decide +kernel
theorem dd_Mo_activate_0 : decode bb_Mo_activate 0 = .ok (.aload_n 0, 1) := by decide +kernel
theorem dd_Mo_activate_1 : decode bb_Mo_activate 1 = .ok (.aload_n 0, 1) := by decide +kernel
theorem dd_Mo_activate_2 : decode bb_Mo_activate 2 = .ok (.getfield 115, 3) := by decide +kernel
theorem dd_Mo_activate_5 : decode bb_Mo_activate 5 = .ok (.invokevirtual 198, 3) := by decide +kernel
theorem dd_Mo_activate_8 : decode bb_Mo_activate 8 = .ok (.ifCond .ne (5), 3) := by decide +kernel
theorem dd_Mo_activate_11 : decode bb_Mo_activate 11 = .ok (.iconst 0, 1) := by decide +kernel
theorem dd_Mo_activate_12 : decode bb_Mo_activate 12 = .ok (.ireturn, 1) := by decide +kernel
theorem dd_Mo_activate_13 : decode bb_Mo_activate 13 = .ok (.aload_n 0, 1) := by decide +kernel
theorem dd_Mo_activate_14 : decode bb_Mo_activate 14 = .ok (.aload_n 0, 1) := by decide +kernel
theorem dd_Mo_activate_15 : decode bb_Mo_activate 15 = .ok (.getfield 115, 3) := by decide +kernel
theorem dd_Mo_activate_18 : decode bb_Mo_activate 18 = .ok (.putfield 183, 3) := by decide +kernel
theorem dd_Mo_activate_21 : decode bb_Mo_activate 21 = .ok (.aload_n 0, 1) := by decide +kernel
theorem dd_Mo_activate_22 : decode bb_Mo_activate 22 = .ok (.iconst (-1), 1) := by decide +kernel
theorem dd_Mo_activate_23 : decode bb_Mo_activate 23 = .ok (.putfield 115, 3) := by decide +kernel
theorem dd_Mo_activate_26 : decode bb_Mo_activate 26 = .ok (.iconst 1, 1) := by decide +kernel
theorem dd_Mo_activate_27 : decode bb_Mo_activate 27 = .ok (.ireturn, 1) := by decide +kernel
theorem dd_Mo_tick_0 : decode bb_Mo_tick 0 = .ok (.iload_n 1, 1) := by decide +kernel
theorem dd_Mo_tick_1 : decode bb_Mo_tick 1 = .ok (.iconst 1, 1) := by decide +kernel
theorem dd_Mo_tick_2 : decode bb_Mo_tick 2 = .ok (.bipush (64), 2) := by decide +kernel
theorem dd_Mo_tick_4 : decode bb_Mo_tick 4 = .ok (.invokestatic 118, 3) := by decide +kernel
theorem dd_Mo_tick_7 : decode bb_Mo_tick 7 = .ok (.ifCond .eq (7), 3) := by decide +kernel
theorem dd_Mo_tick_10 : decode bb_Mo_tick 10 = .ok (.sipush (-1002), 3) := by decide +kernel
theorem dd_Mo_tick_13 : decode bb_Mo_tick 13 = .ok (.ireturn, 1) := by decide +kernel
theorem dd_Mo_tick_14 : decode bb_Mo_tick 14 = .ok (.aload_n 0, 1) := by decide +kernel
theorem dd_Mo_tick_15 : decode bb_Mo_tick 15 = .ok (.dup, 1) := by decide +kernel
theorem dd_Mo_tick_16 : decode bb_Mo_tick 16 = .ok (.getfield 180, 3) := by decide +kernel
theorem dd_Mo_tick_19 : decode bb_Mo_tick 19 = .ok (.iload_n 1, 1) := by decide +kernel
theorem dd_Mo_tick_20 : decode bb_Mo_tick 20 = .ok (.iadd, 1) := by decide +kernel
theorem dd_Mo_tick_21 : decode bb_Mo_tick 21 = .ok (.putfield 180, 3) := by decide +kernel
theorem dd_Mo_tick_24 : decode bb_Mo_tick 24 = .ok (.aload_n 0, 1) := by decide +kernel
theorem dd_Mo_tick_25 : decode bb_Mo_tick 25 = .ok (.getfield 180, 3) := by decide +kernel
theorem dd_Mo_tick_28 : decode bb_Mo_tick 28 = .ok (.ireturn, 1) := by decide +kernel
