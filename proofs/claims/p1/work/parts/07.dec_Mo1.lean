theorem dd_Mo_init_0 : decode bb_Mo_init 0 = .ok (.aload_n 0, 1) := by decide +kernel
theorem dd_Mo_init_1 : decode bb_Mo_init 1 = .ok (.invokespecial 1, 3) := by decide +kernel
theorem dd_Mo_init_4 : decode bb_Mo_init 4 = .ok (.aload_n 0, 1) := by decide +kernel
theorem dd_Mo_init_5 : decode bb_Mo_init 5 = .ok (.bipush (100), 2) := by decide +kernel
theorem dd_Mo_init_7 : decode bb_Mo_init 7 = .ok (.newarray .int, 2) := by decide +kernel
theorem dd_Mo_init_9 : decode bb_Mo_init 9 = .ok (.putfield 7, 3) := by decide +kernel
theorem dd_Mo_init_12 : decode bb_Mo_init 12 = .ok (.aload_n 0, 1) := by decide +kernel
theorem dd_Mo_init_13 : decode bb_Mo_init 13 = .ok (.sipush (480), 3) := by decide +kernel
theorem dd_Mo_init_16 : decode bb_Mo_init 16 = .ok (.newarray .int, 2) := by decide +kernel
theorem dd_Mo_init_18 : decode bb_Mo_init 18 = .ok (.putfield 13, 3) := by decide +kernel
theorem dd_Mo_init_21 : decode bb_Mo_init 21 = .ok (.aload_n 0, 1) := by decide +kernel
theorem dd_Mo_init_22 : decode bb_Mo_init 22 = .ok (.bipush (12), 2) := by decide +kernel
theorem dd_Mo_init_24 : decode bb_Mo_init 24 = .ok (.newarray .int, 2) := by decide +kernel
theorem dd_Mo_init_26 : decode bb_Mo_init 26 = .ok (.putfield 16, 3) := by decide +kernel
theorem dd_Mo_init_29 : decode bb_Mo_init 29 = .ok (.aload_n 0, 1) := by decide +kernel
theorem dd_Mo_init_30 : decode bb_Mo_init 30 = .ok (.bipush (12), 2) := by decide +kernel
theorem dd_Mo_init_32 : decode bb_Mo_init 32 = .ok (.newarray .int, 2) := by decide +kernel
theorem dd_Mo_init_34 : decode bb_Mo_init 34 = .ok (.putfield 19, 3) := by decide +kernel
theorem dd_Mo_init_37 : decode bb_Mo_init 37 = .ok (.aload_n 0, 1) := by decide +kernel
theorem dd_Mo_init_38 : decode bb_Mo_init 38 = .ok (.sipush (600), 3) := by decide +kernel
theorem dd_Mo_init_41 : decode bb_Mo_init 41 = .ok (.newarray .int, 2) := by decide +kernel
theorem dd_Mo_init_43 : decode bb_Mo_init 43 = .ok (.putfield 22, 3) := by decide +kernel
theorem dd_Mo_init_46 : decode bb_Mo_init 46 = .ok (.aload_n 0, 1) := by decide +kernel
theorem dd_Mo_init_47 : decode bb_Mo_init 47 = .ok (.iconst 4, 1) := by decide +kernel
theorem dd_Mo_init_48 : decode bb_Mo_init 48 = .ok (.newarray .long, 2) := by decide +kernel
theorem dd_Mo_init_50 : decode bb_Mo_init 50 = .ok (.putfield 25, 3) := by decide +kernel
theorem dd_Mo_init_53 : decode bb_Mo_init 53 = .ok (.aload_n 0, 1) := by decide +kernel
theorem dd_Mo_init_54 : decode bb_Mo_init 54 = .ok (.bipush (60), 2) := by decide +kernel
theorem dd_Mo_init_56 : decode bb_Mo_init 56 = .ok (.newarray .boolean, 2) := by decide +kernel
theorem dd_Mo_init_58 : decode bb_Mo_init 58 = .ok (.putfield 29, 3) := by decide +kernel
theorem dd_Mo_init_61 : decode bb_Mo_init 61 = .ok (.aload_n 0, 1) := by decide +kernel
theorem dd_Mo_init_62 : decode bb_Mo_init 62 = .ok (.bipush (60), 2) := by decide +kernel
theorem dd_Mo_init_64 : decode bb_Mo_init 64 = .ok (.newarray .int, 2) := by decide +kernel
theorem dd_Mo_init_66 : decode bb_Mo_init 66 = .ok (.putfield 33, 3) := by decide +kernel
theorem dd_Mo_init_69 : decode bb_Mo_init 69 = .ok (.aload_n 0, 1) := by decide +kernel
theorem dd_Mo_init_70 : decode bb_Mo_init 70 = .ok (.bipush (60), 2) := by decide +kernel
theorem dd_Mo_init_72 : decode bb_Mo_init 72 = .ok (.newarray .int, 2) := by decide +kernel
theorem dd_Mo_init_74 : decode bb_Mo_init 74 = .ok (.putfield 36, 3) := by decide +kernel
theorem dd_Mo_init_77 : decode bb_Mo_init 77 = .ok (.aload_n 0, 1) := by decide +kernel
theorem dd_Mo_init_78 : decode bb_Mo_init 78 = .ok (.bipush (60), 2) := by decide +kernel
theorem dd_Mo_init_80 : decode bb_Mo_init 80 = .ok (.newarray .int, 2) := by decide +kernel
theorem dd_Mo_init_82 : decode bb_Mo_init 82 = .ok (.putfield 39, 3) := by decide +kernel
theorem dd_Mo_init_85 : decode bb_Mo_init 85 = .ok (.aload_n 0, 1) := by decide +kernel
theorem dd_Mo_init_86 : decode bb_Mo_init 86 = .ok (.bipush (60), 2) := by decide +kernel
theorem dd_Mo_init_88 : decode bb_Mo_init 88 = .ok (.newarray .int, 2) := by decide +kernel
theorem dd_Mo_init_90 : decode bb_Mo_init 90 = .ok (.putfield 42, 3) := by decide +kernel
theorem dd_Mo_init_93 : decode bb_Mo_init 93 = .ok (.aload_n 0, 1) := by decide +kernel
theorem dd_Mo_init_94 : decode bb_Mo_init 94 = .ok (.bipush (60), 2) := by decide +kernel
theorem dd_Mo_init_96 : decode bb_Mo_init 96 = .ok (.newarray .int, 2) := by decide +kernel
theorem dd_Mo_init_98 : decode bb_Mo_init 98 = .ok (.putfield 45, 3) := by decide +kernel
theorem dd_Mo_init_101 : decode bb_Mo_init 101 = .ok (.aload_n 0, 1) := by decide +kernel
theorem dd_Mo_init_102 : decode bb_Mo_init 102 = .ok (.iconst 3, 1) := by decide +kernel
theorem dd_Mo_init_103 : decode bb_Mo_init 103 = .ok (.newarray .int, 2) := by decide +kernel
theorem dd_Mo_init_105 : decode bb_Mo_init 105 = .ok (.putfield 48, 3) := by decide +kernel
theorem dd_Mo_init_108 : decode bb_Mo_init 108 = .ok (.aload_n 0, 1) := by decide +kernel
theorem dd_Mo_init_109 : decode bb_Mo_init 109 = .ok (.iconst 3, 1) := by decide +kernel
theorem dd_Mo_init_110 : decode bb_Mo_init 110 = .ok (.newarray .int, 2) := by decide +kernel
theorem dd_Mo_init_112 : decode bb_Mo_init 112 = .ok (.putfield 51, 3) := by decide +kernel
theorem dd_Mo_init_115 : decode bb_Mo_init 115 = .ok (.aload_n 0, 1) := by decide +kernel
theorem dd_Mo_init_116 : decode bb_Mo_init 116 = .ok (.sipush (180), 3) := by decide +kernel
theorem dd_Mo_init_119 : decode bb_Mo_init 119 = .ok (.newarray .int, 2) := by decide +kernel
theorem dd_Mo_init_121 : decode bb_Mo_init 121 = .ok (.putfield 54, 3) := by decide +kernel
theorem dd_Mo_init_124 : decode bb_Mo_init 124 = .ok (.aload_n 0, 1) := by decide +kernel
theorem dd_Mo_init_125 : decode bb_Mo_init 125 = .ok (.sipush (180), 3) := by decide +kernel
theorem dd_Mo_init_128 : decode bb_Mo_init 128 = .ok (.newarray .int, 2) := by decide +kernel
theorem dd_Mo_init_130 : decode bb_Mo_init 130 = .ok (.putfield 57, 3) := by decide +kernel
theorem dd_Mo_init_133 : decode bb_Mo_init 133 = .ok (.aload_n 0, 1) := by decide +kernel
theorem dd_Mo_init_134 : decode bb_Mo_init 134 = .ok (.sipush (180), 3) := by decide +kernel
theorem dd_Mo_init_137 : decode bb_Mo_init 137 = .ok (.newarray .int, 2) := by decide +kernel
theorem dd_Mo_init_139 : decode bb_Mo_init 139 = .ok (.putfield 60, 3) := by decide +kernel
theorem dd_Mo_init_142 : decode bb_Mo_init 142 = .ok (.aload_n 0, 1) := by decide +kernel
theorem dd_Mo_init_143 : decode bb_Mo_init 143 = .ok (.sipush (180), 3) := by decide +kernel
theorem dd_Mo_init_146 : decode bb_Mo_init 146 = .ok (.newarray .int, 2) := by decide +kernel
theorem dd_Mo_init_148 : decode bb_Mo_init 148 = .ok (.putfield 63, 3) := by decide +kernel
theorem dd_Mo_init_151 : decode bb_Mo_init 151 = .ok (.aload_n 0, 1) := by decide +kernel
theorem dd_Mo_init_152 : decode bb_Mo_init 152 = .ok (.bipush (12), 2) := by decide +kernel
theorem dd_Mo_init_154 : decode bb_Mo_init 154 = .ok (.newarray .int, 2) := by decide +kernel
theorem dd_Mo_init_156 : decode bb_Mo_init 156 = .ok (.putfield 66, 3) := by decide +kernel
theorem dd_Mo_init_159 : decode bb_Mo_init 159 = .ok (.aload_n 0, 1) := by decide +kernel
theorem dd_Mo_init_160 : decode bb_Mo_init 160 = .ok (.iconst 3, 1) := by decide +kernel
theorem dd_Mo_init_161 : decode bb_Mo_init 161 = .ok (.newarray .int, 2) := by decide +kernel
theorem dd_Mo_init_163 : decode bb_Mo_init 163 = .ok (.putfield 69, 3) := by decide +kernel
theorem dd_Mo_init_166 : decode bb_Mo_init 166 = .ok (.aload_n 0, 1) := by decide +kernel
theorem dd_Mo_init_167 : decode bb_Mo_init 167 = .ok (.iconst 3, 1) := by decide +kernel
theorem dd_Mo_init_168 : decode bb_Mo_init 168 = .ok (.newarray .int, 2) := by decide +kernel
theorem dd_Mo_init_170 : decode bb_Mo_init 170 = .ok (.putfield 72, 3) := by decide +kernel
theorem dd_Mo_init_173 : decode bb_Mo_init 173 = .ok (.aload_n 0, 1) := by decide +kernel
theorem dd_Mo_init_174 : decode bb_Mo_init 174 = .ok (.iconst 4, 1) := by decide +kernel
theorem dd_Mo_init_175 : decode bb_Mo_init 175 = .ok (.newarray .int, 2) := by decide +kernel
theorem dd_Mo_init_177 : decode bb_Mo_init 177 = .ok (.putfield 75, 3) := by decide +kernel
theorem dd_Mo_init_180 : decode bb_Mo_init 180 = .ok (.aload_n 0, 1) := by decide +kernel
theorem dd_Mo_init_181 : decode bb_Mo_init 181 = .ok (.iconst 4, 1) := by decide +kernel
theorem dd_Mo_init_182 : decode bb_Mo_init 182 = .ok (.newarray .int, 2) := by decide +kernel
theorem dd_Mo_init_184 : decode bb_Mo_init 184 = .ok (.putfield 78, 3) := by decide +kernel
theorem dd_Mo_init_187 : decode bb_Mo_init 187 = .ok (.aload_n 0, 1) := by decide +kernel
theorem dd_Mo_init_188 : decode bb_Mo_init 188 = .ok (.iconst 4, 1) := by decide +kernel
theorem dd_Mo_init_189 : decode bb_Mo_init 189 = .ok (.newarray .int, 2) := by decide +kernel
theorem dd_Mo_init_191 : decode bb_Mo_init 191 = .ok (.putfield 81, 3) := by decide +kernel
theorem dd_Mo_init_194 : decode bb_Mo_init 194 = .ok (.aload_n 0, 1) := by decide +kernel
theorem dd_Mo_init_195 : decode bb_Mo_init 195 = .ok (.bipush (48), 2) := by decide +kernel
theorem dd_Mo_init_197 : decode bb_Mo_init 197 = .ok (.newarray .int, 2) := by decide +kernel
theorem dd_Mo_init_199 : decode bb_Mo_init 199 = .ok (.putfield 84, 3) := by decide +kernel
theorem dd_Mo_init_202 : decode bb_Mo_init 202 = .ok (.aload_n 0, 1) := by decide +kernel
theorem dd_Mo_init_203 : decode bb_Mo_init 203 = .ok (.iconst 4, 1) := by decide +kernel
theorem dd_Mo_init_204 : decode bb_Mo_init 204 = .ok (.newarray .int, 2) := by decide +kernel
theorem dd_Mo_init_206 : decode bb_Mo_init 206 = .ok (.putfield 87, 3) := by decide +kernel
theorem dd_Mo_init_209 : decode bb_Mo_init 209 = .ok (.aload_n 0, 1) := by decide +kernel
theorem dd_Mo_init_210 : decode bb_Mo_init 210 = .ok (.bipush (16), 2) := by decide +kernel
theorem dd_Mo_init_212 : decode bb_Mo_init 212 = .ok (.newarray .int, 2) := by decide +kernel
theorem dd_Mo_init_214 : decode bb_Mo_init 214 = .ok (.putfield 90, 3) := by decide +kernel
theorem dd_Mo_init_217 : decode bb_Mo_init 217 = .ok (.aload_n 0, 1) := by decide +kernel
theorem dd_Mo_init_218 : decode bb_Mo_init 218 = .ok (.iconst 4, 1) := by decide +kernel
theorem dd_Mo_init_219 : decode bb_Mo_init 219 = .ok (.newarray .int, 2) := by decide +kernel
theorem dd_Mo_init_221 : decode bb_Mo_init 221 = .ok (.putfield 93, 3) := by decide +kernel
theorem dd_Mo_init_224 : decode bb_Mo_init 224 = .ok (.aload_n 0, 1) := by decide +kernel
theorem dd_Mo_init_225 : decode bb_Mo_init 225 = .ok (.bipush (60), 2) := by decide +kernel
theorem dd_Mo_init_227 : decode bb_Mo_init 227 = .ok (.newarray .int, 2) := by decide +kernel
theorem dd_Mo_init_229 : decode bb_Mo_init 229 = .ok (.putfield 96, 3) := by decide +kernel
theorem dd_Mo_init_232 : decode bb_Mo_init 232 = .ok (.aload_n 0, 1) := by decide +kernel
theorem dd_Mo_init_233 : decode bb_Mo_init 233 = .ok (.iconst 4, 1) := by decide +kernel
theorem dd_Mo_init_234 : decode bb_Mo_init 234 = .ok (.newarray .int, 2) := by decide +kernel
theorem dd_Mo_init_236 : decode bb_Mo_init 236 = .ok (.putfield 99, 3) := by decide +kernel
theorem dd_Mo_init_239 : decode bb_Mo_init 239 = .ok (.aload_n 0, 1) := by decide +kernel
theorem dd_Mo_init_240 : decode bb_Mo_init 240 = .ok (.bipush (12), 2) := by decide +kernel
theorem dd_Mo_init_242 : decode bb_Mo_init 242 = .ok (.newarray .int, 2) := by decide +kernel
theorem dd_Mo_init_244 : decode bb_Mo_init 244 = .ok (.putfield 102, 3) := by decide +kernel
theorem dd_Mo_init_247 : decode bb_Mo_init 247 = .ok (.aload_n 0, 1) := by decide +kernel
theorem dd_Mo_init_248 : decode bb_Mo_init 248 = .ok (.bipush (100), 2) := by decide +kernel
theorem dd_Mo_init_250 : decode bb_Mo_init 250 = .ok (.newarray .int, 2) := by decide +kernel
theorem dd_Mo_init_252 : decode bb_Mo_init 252 = .ok (.putfield 105, 3) := by decide +kernel
theorem dd_Mo_init_255 : decode bb_Mo_init 255 = .ok (.aload_n 0, 1) := by decide +kernel
theorem dd_Mo_init_256 : decode bb_Mo_init 256 = .ok (.iload_n 1, 1) := by decide +kernel
theorem dd_Mo_init_257 : decode bb_Mo_init 257 = .ok (.bipush (32), 2) := by decide +kernel
theorem dd_Mo_init_259 : decode bb_Mo_init 259 = .ok (.if_icmp .ge (8), 3) := by decide +kernel
theorem dd_Mo_init_262 : decode bb_Mo_init 262 = .ok (.bipush (32), 2) := by decide +kernel
theorem dd_Mo_init_264 : decode bb_Mo_init 264 = .ok (.goto (17), 3) := by decide +kernel
theorem dd_Mo_init_267 : decode bb_Mo_init 267 = .ok (.iload_n 1, 1) := by decide +kernel
theorem dd_Mo_init_268 : decode bb_Mo_init 268 = .ok (.sipush (256), 3) := by decide +kernel
theorem dd_Mo_init_271 : decode bb_Mo_init 271 = .ok (.if_icmp .le (9), 3) := by decide +kernel
theorem dd_Mo_init_274 : decode bb_Mo_init 274 = .ok (.sipush (256), 3) := by decide +kernel
theorem dd_Mo_init_277 : decode bb_Mo_init 277 = .ok (.goto (4), 3) := by decide +kernel
theorem dd_Mo_init_280 : decode bb_Mo_init 280 = .ok (.iload_n 1, 1) := by decide +kernel
theorem dd_Mo_init_281 : decode bb_Mo_init 281 = .ok (.putfield 108, 3) := by decide +kernel
theorem dd_Mo_init_284 : decode bb_Mo_init 284 = .ok (.aload_n 0, 1) := by decide +kernel
theorem dd_Mo_init_285 : decode bb_Mo_init 285 = .ok (.iconst 1, 1) := by decide +kernel
theorem dd_Mo_init_286 : decode bb_Mo_init 286 = .ok (.putfield 112, 3) := by decide +kernel
theorem dd_Mo_init_289 : decode bb_Mo_init 289 = .ok (.aload_n 0, 1) := by decide +kernel
theorem dd_Mo_init_290 : decode bb_Mo_init 290 = .ok (.iconst (-1), 1) := by decide +kernel
theorem dd_Mo_init_291 : decode bb_Mo_init 291 = .ok (.putfield 115, 3) := by decide +kernel
theorem dd_Mo_init_294 : decode bb_Mo_init 294 = .ok (.return_, 1) := by decide +kernel
theorem dd_Mo_put_0 : decode bb_Mo_put 0 = .ok (.iload_n 2, 1) := by decide +kernel
theorem dd_Mo_put_1 : decode bb_Mo_put 1 = .ok (.iconst 1, 1) := by decide +kernel
theorem dd_Mo_put_2 : decode bb_Mo_put 2 = .ok (.iconst 4, 1) := by decide +kernel
theorem dd_Mo_put_3 : decode bb_Mo_put 3 = .ok (.invokestatic 118, 3) := by decide +kernel
theorem dd_Mo_put_6 : decode bb_Mo_put 6 = .ok (.ifCond .ne (14), 3) := by decide +kernel
theorem dd_Mo_put_9 : decode bb_Mo_put 9 = .ok (.aload_n 0, 1) := by decide +kernel
theorem dd_Mo_put_10 : decode bb_Mo_put 10 = .ok (.getfield 122, 3) := by decide +kernel
theorem dd_Mo_put_13 : decode bb_Mo_put 13 = .ok (.iload_n 2, 1) := by decide +kernel
theorem dd_Mo_put_14 : decode bb_Mo_put 14 = .ok (.iadd, 1) := by decide +kernel
theorem dd_Mo_put_15 : decode bb_Mo_put 15 = .ok (.bipush (100), 2) := by decide +kernel
theorem dd_Mo_put_17 : decode bb_Mo_put 17 = .ok (.if_icmp .le (5), 3) := by decide +kernel
theorem dd_Mo_put_20 : decode bb_Mo_put 20 = .ok (.iconst 0, 1) := by decide +kernel
theorem dd_Mo_put_21 : decode bb_Mo_put 21 = .ok (.ireturn, 1) := by decide +kernel
theorem dd_Mo_put_22 : decode bb_Mo_put 22 = .ok (.iload_n 2, 1) := by decide +kernel
theorem dd_Mo_put_23 : decode bb_Mo_put 23 = .ok (.iconst 1, 1) := by decide +kernel
theorem dd_Mo_put_24 : decode bb_Mo_put 24 = .ok (.isub, 1) := by decide +kernel
theorem dd_Mo_put_25 : decode bb_Mo_put 25 = .ok (.istore_n 3, 1) := by decide +kernel
theorem dd_Mo_put_26 : decode bb_Mo_put 26 = .ok (.iload_n 3, 1) := by decide +kernel
theorem dd_Mo_put_27 : decode bb_Mo_put 27 = .ok (.ifCond .lt (38), 3) := by decide +kernel
theorem dd_Mo_put_30 : decode bb_Mo_put 30 = .ok (.aload_n 0, 1) := by decide +kernel
theorem dd_Mo_put_31 : decode bb_Mo_put 31 = .ok (.getfield 7, 3) := by decide +kernel
theorem dd_Mo_put_34 : decode bb_Mo_put 34 = .ok (.aload_n 0, 1) := by decide +kernel
theorem dd_Mo_put_35 : decode bb_Mo_put 35 = .ok (.getfield 122, 3) := by decide +kernel
theorem dd_Mo_put_38 : decode bb_Mo_put 38 = .ok (.iload_n 1, 1) := by decide +kernel
theorem dd_Mo_put_39 : decode bb_Mo_put 39 = .ok (.bipush (8), 2) := by decide +kernel
theorem dd_Mo_put_41 : decode bb_Mo_put 41 = .ok (.iload_n 3, 1) := by decide +kernel
theorem dd_Mo_put_42 : decode bb_Mo_put 42 = .ok (.imul, 1) := by decide +kernel
theorem dd_Mo_put_43 : decode bb_Mo_put 43 = .ok (.ishr, 1) := by decide +kernel
theorem dd_Mo_put_44 : decode bb_Mo_put 44 = .ok (.sipush (255), 3) := by decide +kernel
theorem dd_Mo_put_47 : decode bb_Mo_put 47 = .ok (.iand, 1) := by decide +kernel
theorem dd_Mo_put_48 : decode bb_Mo_put 48 = .ok (.iastore, 1) := by decide +kernel
theorem dd_Mo_put_49 : decode bb_Mo_put 49 = .ok (.aload_n 0, 1) := by decide +kernel
theorem dd_Mo_put_50 : decode bb_Mo_put 50 = .ok (.dup, 1) := by decide +kernel
theorem dd_Mo_put_51 : decode bb_Mo_put 51 = .ok (.getfield 122, 3) := by decide +kernel
theorem dd_Mo_put_54 : decode bb_Mo_put 54 = .ok (.iconst 1, 1) := by decide +kernel
theorem dd_Mo_put_55 : decode bb_Mo_put 55 = .ok (.iadd, 1) := by decide +kernel
theorem dd_Mo_put_56 : decode bb_Mo_put 56 = .ok (.putfield 122, 3) := by decide +kernel
theorem dd_Mo_put_59 : decode bb_Mo_put 59 = .ok (.iinc 3 (-1), 3) := by decide +kernel
theorem dd_Mo_put_62 : decode bb_Mo_put 62 = .ok (.goto (-36), 3) := by decide +kernel
theorem dd_Mo_put_65 : decode bb_Mo_put 65 = .ok (.iconst 1, 1) := by decide +kernel
theorem dd_Mo_put_66 : decode bb_Mo_put 66 = .ok (.ireturn, 1) := by decide +kernel
theorem dd_Mo_outside_0 : decode bb_Mo_outside 0 = .ok (.iload_n 0, 1) := by decide +kernel
theorem dd_Mo_outside_1 : decode bb_Mo_outside 1 = .ok (.iload_n 1, 1) := by decide +kernel
theorem dd_Mo_outside_2 : decode bb_Mo_outside 2 = .ok (.if_icmp .lt (8), 3) := by decide +kernel
theorem dd_Mo_outside_5 : decode bb_Mo_outside 5 = .ok (.iload_n 0, 1) := by decide +kernel
theorem dd_Mo_outside_6 : decode bb_Mo_outside 6 = .ok (.iload_n 2, 1) := by decide +kernel
theorem dd_Mo_outside_7 : decode bb_Mo_outside 7 = .ok (.if_icmp .le (7), 3) := by decide +kernel
theorem dd_Mo_outside_10 : decode bb_Mo_outside 10 = .ok (.iconst 1, 1) := by decide +kernel
theorem dd_Mo_outside_11 : decode bb_Mo_outside 11 = .ok (.goto (4), 3) := by decide +kernel
theorem dd_Mo_outside_14 : decode bb_Mo_outside 14 = .ok (.iconst 0, 1) := by decide +kernel
theorem dd_Mo_outside_15 : decode bb_Mo_outside 15 = .ok (.ireturn, 1) := by decide +kernel
theorem dd_Mo_id_0 : decode bb_Mo_id 0 = .ok (.aload_n 0, 1) := by decide +kernel
theorem dd_Mo_id_1 : decode bb_Mo_id 1 = .ok (.getfield 122, 3) := by decide +kernel
theorem dd_Mo_id_4 : decode bb_Mo_id 4 = .ok (.istore_n 1, 1) := by decide +kernel
theorem dd_Mo_id_5 : decode bb_Mo_id 5 = .ok (.aload_n 0, 1) := by decide +kernel
theorem dd_Mo_id_6 : decode bb_Mo_id 6 = .ok (.iconst 0, 1) := by decide +kernel
theorem dd_Mo_id_7 : decode bb_Mo_id 7 = .ok (.putfield 122, 3) := by decide +kernel
theorem dd_Mo_id_10 : decode bb_Mo_id 10 = .ok (.aload_n 0, 1) := by decide +kernel
theorem dd_Mo_id_11 : decode bb_Mo_id 11 = .ok (.iload_n 1, 1) := by decide +kernel
theorem dd_Mo_id_12 : decode bb_Mo_id 12 = .ok (.invokevirtual 157, 3) := by decide +kernel
theorem dd_Mo_id_15 : decode bb_Mo_id 15 = .ok (.ireturn, 1) := by decide +kernel
theorem dd_Mo_identify_0 : decode bb_Mo_identify 0 = .ok (.aload_n 0, 1) := by decide +kernel
theorem dd_Mo_identify_1 : decode bb_Mo_identify 1 = .ok (.iconst 0, 1) := by decide +kernel
theorem dd_Mo_identify_2 : decode bb_Mo_identify 2 = .ok (.iload_n 1, 1) := by decide +kernel
theorem dd_Mo_identify_3 : decode bb_Mo_identify 3 = .ok (.invokevirtual 147, 3) := by decide +kernel
theorem dd_Mo_identify_6 : decode bb_Mo_identify 6 = .ok (.istore_n 2, 1) := by decide +kernel
theorem dd_Mo_identify_7 : decode bb_Mo_identify 7 = .ok (.iload_n 2, 1) := by decide +kernel
theorem dd_Mo_identify_8 : decode bb_Mo_identify 8 = .ok (.ifCond .lt (7), 3) := by decide +kernel
theorem dd_Mo_identify_11 : decode bb_Mo_identify 11 = .ok (.iconst (-1), 1) := by decide +kernel
theorem dd_Mo_identify_12 : decode bb_Mo_identify 12 = .ok (.iload_n 2, 1) := by decide +kernel
theorem dd_Mo_identify_13 : decode bb_Mo_identify 13 = .ok (.isub, 1) := by decide +kernel
theorem dd_Mo_identify_14 : decode bb_Mo_identify 14 = .ok (.ireturn, 1) := by decide +kernel
theorem dd_Mo_idError_0 : decode bb_Mo_idError 0 = .ok (.aload_n 0, 1) := by decide +kernel
theorem dd_Mo_idError_1 : decode bb_Mo_idError 1 = .ok (.iload_n 1, 1) := by decide +kernel
theorem dd_Mo_idError_2 : decode bb_Mo_idError 2 = .ok (.iload_n 2, 1) := by decide +kernel
theorem dd_Mo_idError_3 : decode bb_Mo_idError 3 = .ok (.invokevirtual 143, 3) := by decide +kernel
theorem dd_Mo_idError_6 : decode bb_Mo_idError 6 = .ok (.istore_n 3, 1) := by decide +kernel
theorem dd_Mo_idError_7 : decode bb_Mo_idError 7 = .ok (.iload_n 2, 1) := by decide +kernel
theorem dd_Mo_idError_8 : decode bb_Mo_idError 8 = .ok (.bipush (40), 2) := by decide +kernel
theorem dd_Mo_idError_10 : decode bb_Mo_idError 10 = .ok (.if_icmp .le (14), 3) := by decide +kernel
theorem dd_Mo_idError_24 : decode bb_Mo_idError 24 = .ok (.iload_n 3, 1) := by decide +kernel
theorem dd_Mo_idError_25 : decode bb_Mo_idError 25 = .ok (.istore 4, 2) := by decide +kernel
theorem dd_Mo_idError_27 : decode bb_Mo_idError 27 = .ok (.iload 4, 2) := by decide +kernel
theorem dd_Mo_idError_29 : decode bb_Mo_idError 29 = .ok (.iload_n 2, 1) := by decide +kernel
theorem dd_Mo_idError_30 : decode bb_Mo_idError 30 = .ok (.if_icmp .le (7), 3) := by decide +kernel
theorem dd_Mo_idError_37 : decode bb_Mo_idError 37 = .ok (.iload 4, 2) := by decide +kernel
theorem dd_Mo_idError_39 : decode bb_Mo_idError 39 = .ok (.ireturn, 1) := by decide +kernel
theorem dd_Mo_errorBySigns_0 : decode bb_Mo_errorBySigns 0 = .ok (.iconst 0, 1) := by decide +kernel
theorem dd_Mo_errorBySigns_1 : decode bb_Mo_errorBySigns 1 = .ok (.istore_n 3, 1) := by decide +kernel
theorem dd_Mo_errorBySigns_2 : decode bb_Mo_errorBySigns 2 = .ok (.iload_n 3, 1) := by decide +kernel
theorem dd_Mo_errorBySigns_3 : decode bb_Mo_errorBySigns 3 = .ok (.bipush (9), 2) := by decide +kernel
theorem dd_Mo_errorBySigns_5 : decode bb_Mo_errorBySigns 5 = .ok (.if_icmp .ge (25), 3) := by decide +kernel
theorem dd_Mo_errorBySigns_8 : decode bb_Mo_errorBySigns 8 = .ok (.aload_n 0, 1) := by decide +kernel
theorem dd_Mo_errorBySigns_9 : decode bb_Mo_errorBySigns 9 = .ok (.iload_n 1, 1) := by decide +kernel
theorem dd_Mo_errorBySigns_10 : decode bb_Mo_errorBySigns 10 = .ok (.iload_n 2, 1) := by decide +kernel
theorem dd_Mo_errorBySigns_11 : decode bb_Mo_errorBySigns 11 = .ok (.iload_n 3, 1) := by decide +kernel
theorem dd_Mo_errorBySigns_12 : decode bb_Mo_errorBySigns 12 = .ok (.invokevirtual 129, 3) := by decide +kernel
theorem dd_Mo_errorBySigns_15 : decode bb_Mo_errorBySigns 15 = .ok (.iload_n 3, 1) := by decide +kernel
theorem dd_Mo_errorBySigns_16 : decode bb_Mo_errorBySigns 16 = .ok (.invokestatic 133, 3) := by decide +kernel
theorem dd_Mo_errorBySigns_19 : decode bb_Mo_errorBySigns 19 = .ok (.if_icmp .eq (5), 3) := by decide +kernel
theorem dd_Mo_errorBySigns_22 : decode bb_Mo_errorBySigns 22 = .ok (.iload_n 3, 1) := by decide +kernel
theorem dd_Mo_errorBySigns_23 : decode bb_Mo_errorBySigns 23 = .ok (.ireturn, 1) := by decide +kernel
theorem dd_Mo_sign_0 : decode bb_Mo_sign 0 = .ok (.iload_n 3, 1) := by decide +kernel
theorem dd_Mo_sign_1 : decode bb_Mo_sign 1 = .ok (.iload_n 2, 1) := by decide +kernel
theorem dd_Mo_sign_2 : decode bb_Mo_sign 2 = .ok (.if_icmp .ge (14), 3) := by decide +kernel
theorem dd_Mo_sign_16 : decode bb_Mo_sign 16 = .ok (.iconst (-1), 1) := by decide +kernel
theorem dd_Mo_sign_17 : decode bb_Mo_sign 17 = .ok (.ireturn, 1) := by decide +kernel
theorem dd_Mo_scheme_0 : decode bb_Mo_scheme 0 = .ok (.iload_n 0, 1) := by decide +kernel
theorem dd_Mo_scheme_1 : decode bb_Mo_scheme 1 = .ok (.iconst 3, 1) := by decide +kernel
theorem dd_Mo_scheme_2 : decode bb_Mo_scheme 2 = .ok (.if_icmp .ge (27), 3) := by decide +kernel
theorem dd_Mo_scheme_5 : decode bb_Mo_scheme 5 = .ok (.iload_n 0, 1) := by decide +kernel
theorem dd_Mo_scheme_6 : decode bb_Mo_scheme 6 = .ok (.ifCond .ne (8), 3) := by decide +kernel
theorem dd_Mo_scheme_9 : decode bb_Mo_scheme 9 = .ok (.bipush (115), 2) := by decide +kernel
theorem dd_Mo_scheme_11 : decode bb_Mo_scheme 11 = .ok (.goto (51), 3) := by decide +kernel
theorem dd_Mo_scheme_62 : decode bb_Mo_scheme 62 = .ok (.ireturn, 1) := by decide +kernel
theorem dd_Mo_entry_0 : decode bb_Mo_entry 0 = .ok (.iload_n 1, 1) := by decide +kernel
theorem dd_Mo_entry_1 : decode bb_Mo_entry 1 = .ok (.iconst 0, 1) := by decide +kernel
theorem dd_Mo_entry_2 : decode bb_Mo_entry 2 = .ok (.aload_n 0, 1) := by decide +kernel
theorem dd_Mo_entry_3 : decode bb_Mo_entry 3 = .ok (.getfield 150, 3) := by decide +kernel
theorem dd_Mo_entry_6 : decode bb_Mo_entry 6 = .ok (.iconst 1, 1) := by decide +kernel
theorem dd_Mo_entry_7 : decode bb_Mo_entry 7 = .ok (.isub, 1) := by decide +kernel
theorem dd_Mo_entry_8 : decode bb_Mo_entry 8 = .ok (.invokestatic 118, 3) := by decide +kernel
theorem dd_Mo_entry_11 : decode bb_Mo_entry 11 = .ok (.ifCond .ne (17), 3) := by decide +kernel
theorem dd_Mo_entry_14 : decode bb_Mo_entry 14 = .ok (.iload_n 2, 1) := by decide +kernel
theorem dd_Mo_entry_15 : decode bb_Mo_entry 15 = .ok (.iconst 0, 1) := by decide +kernel
theorem dd_Mo_entry_16 : decode bb_Mo_entry 16 = .ok (.aload_n 0, 1) := by decide +kernel
theorem dd_Mo_entry_17 : decode bb_Mo_entry 17 = .ok (.getfield 150, 3) := by decide +kernel
theorem dd_Mo_entry_20 : decode bb_Mo_entry 20 = .ok (.iconst 1, 1) := by decide +kernel
theorem dd_Mo_entry_21 : decode bb_Mo_entry 21 = .ok (.isub, 1) := by decide +kernel
theorem dd_Mo_entry_22 : decode bb_Mo_entry 22 = .ok (.invokestatic 118, 3) := by decide +kernel
theorem dd_Mo_entry_25 : decode bb_Mo_entry 25 = .ok (.ifCond .eq (7), 3) := by decide +kernel
theorem dd_Mo_entry_28 : decode bb_Mo_entry 28 = .ok (.sipush (-1001), 3) := by decide +kernel
theorem dd_Mo_entry_31 : decode bb_Mo_entry 31 = .ok (.ireturn, 1) := by decide +kernel
theorem dd_Mo_remove_0 : decode bb_Mo_remove 0 = .ok (.iload_n 1, 1) := by decide +kernel
theorem dd_Mo_remove_1 : decode bb_Mo_remove 1 = .ok (.iconst 0, 1) := by decide +kernel
theorem dd_Mo_remove_2 : decode bb_Mo_remove 2 = .ok (.aload_n 0, 1) := by decide +kernel
theorem dd_Mo_remove_3 : decode bb_Mo_remove 3 = .ok (.getfield 167, 3) := by decide +kernel
theorem dd_Mo_remove_6 : decode bb_Mo_remove 6 = .ok (.iconst 1, 1) := by decide +kernel
theorem dd_Mo_remove_7 : decode bb_Mo_remove 7 = .ok (.isub, 1) := by decide +kernel
theorem dd_Mo_remove_8 : decode bb_Mo_remove 8 = .ok (.invokestatic 118, 3) := by decide +kernel
theorem dd_Mo_remove_11 : decode bb_Mo_remove 11 = .ok (.ifCond .ne (12), 3) := by decide +kernel
theorem dd_Mo_remove_23 : decode bb_Mo_remove 23 = .ok (.iconst 0, 1) := by decide +kernel
theorem dd_Mo_remove_24 : decode bb_Mo_remove 24 = .ok (.ireturn, 1) := by decide +kernel
theorem dd_Mo_foreign_0 : decode bb_Mo_foreign 0 = .ok (.iload_n 1, 1) := by decide +kernel
theorem dd_Mo_foreign_1 : decode bb_Mo_foreign 1 = .ok (.iconst 0, 1) := by decide +kernel
theorem dd_Mo_foreign_2 : decode bb_Mo_foreign 2 = .ok (.iconst 3, 1) := by decide +kernel
theorem dd_Mo_foreign_3 : decode bb_Mo_foreign 3 = .ok (.invokestatic 118, 3) := by decide +kernel
theorem dd_Mo_foreign_6 : decode bb_Mo_foreign 6 = .ok (.ifCond .ne (23), 3) := by decide +kernel
theorem dd_Mo_foreign_9 : decode bb_Mo_foreign 9 = .ok (.aload_n 0, 1) := by decide +kernel
theorem dd_Mo_foreign_10 : decode bb_Mo_foreign 10 = .ok (.getfield 170, 3) := by decide +kernel
theorem dd_Mo_foreign_13 : decode bb_Mo_foreign 13 = .ok (.iload_n 1, 1) := by decide +kernel
theorem dd_Mo_foreign_14 : decode bb_Mo_foreign 14 = .ok (.ishr, 1) := by decide +kernel
theorem dd_Mo_foreign_15 : decode bb_Mo_foreign 15 = .ok (.iconst 1, 1) := by decide +kernel
theorem dd_Mo_foreign_16 : decode bb_Mo_foreign 16 = .ok (.iand, 1) := by decide +kernel
theorem dd_Mo_foreign_17 : decode bb_Mo_foreign 17 = .ok (.iload_n 2, 1) := by decide +kernel
theorem dd_Mo_foreign_18 : decode bb_Mo_foreign 18 = .ok (.ifCond .eq (7), 3) := by decide +kernel
theorem dd_Mo_foreign_21 : decode bb_Mo_foreign 21 = .ok (.iconst 1, 1) := by decide +kernel
theorem dd_Mo_foreign_22 : decode bb_Mo_foreign 22 = .ok (.goto (4), 3) := by decide +kernel
theorem dd_Mo_foreign_25 : decode bb_Mo_foreign 25 = .ok (.iconst 0, 1) := by decide +kernel
theorem dd_Mo_foreign_26 : decode bb_Mo_foreign 26 = .ok (.if_icmp .ne (5), 3) := by decide +kernel
theorem dd_Mo_foreign_29 : decode bb_Mo_foreign 29 = .ok (.iconst 0, 1) := by decide +kernel
theorem dd_Mo_foreign_30 : decode bb_Mo_foreign 30 = .ok (.ireturn, 1) := by decide +kernel
theorem dd_Mo_foreign_31 : decode bb_Mo_foreign 31 = .ok (.aload_n 0, 1) := by decide +kernel
theorem dd_Mo_foreign_32 : decode bb_Mo_foreign 32 = .ok (.aload_n 0, 1) := by decide +kernel
theorem dd_Mo_foreign_33 : decode bb_Mo_foreign 33 = .ok (.getfield 170, 3) := by decide +kernel
theorem dd_Mo_foreign_36 : decode bb_Mo_foreign 36 = .ok (.iconst 1, 1) := by decide +kernel
theorem dd_Mo_foreign_37 : decode bb_Mo_foreign 37 = .ok (.iload_n 1, 1) := by decide +kernel
theorem dd_Mo_foreign_38 : decode bb_Mo_foreign 38 = .ok (.ishl, 1) := by decide +kernel
theorem dd_Mo_foreign_39 : decode bb_Mo_foreign 39 = .ok (.ixor, 1) := by decide +kernel
theorem dd_Mo_foreign_40 : decode bb_Mo_foreign 40 = .ok (.putfield 170, 3) := by decide +kernel
theorem dd_Mo_foreign_43 : decode bb_Mo_foreign 43 = .ok (.iconst 1, 1) := by decide +kernel
theorem dd_Mo_foreign_44 : decode bb_Mo_foreign 44 = .ok (.ireturn, 1) := by decide +kernel
theorem dd_Mo_attest_0 : decode bb_Mo_attest 0 = .ok (.iload_n 1, 1) := by decide +kernel
theorem dd_Mo_attest_1 : decode bb_Mo_attest 1 = .ok (.iconst 0, 1) := by decide +kernel
theorem dd_Mo_attest_2 : decode bb_Mo_attest 2 = .ok (.aload_n 0, 1) := by decide +kernel
theorem dd_Mo_attest_3 : decode bb_Mo_attest 3 = .ok (.getfield 150, 3) := by decide +kernel
theorem dd_Mo_attest_6 : decode bb_Mo_attest 6 = .ok (.iconst 1, 1) := by decide +kernel
theorem dd_Mo_attest_7 : decode bb_Mo_attest 7 = .ok (.isub, 1) := by decide +kernel
theorem dd_Mo_attest_8 : decode bb_Mo_attest 8 = .ok (.invokestatic 118, 3) := by decide +kernel
theorem dd_Mo_attest_11 : decode bb_Mo_attest 11 = .ok (.ifCond .eq (7), 3) := by decide +kernel
theorem dd_Mo_attest_14 : decode bb_Mo_attest 14 = .ok (.sipush (-1001), 3) := by decide +kernel
theorem dd_Mo_attest_17 : decode bb_Mo_attest 17 = .ok (.ireturn, 1) := by decide +kernel
