theorem dd_Mo_init_0 : decode bb_Mo_init 0 = .ok (.aload_n 0, 1) := by decide +kernel
theorem dd_Mo_init_1 : decode bb_Mo_init 1 = .ok (.invokespecial 1, 3) := by decide +kernel
theorem dd_Mo_init_4 : decode bb_Mo_init 4 = .ok (.aload_n 0, 1) := by decide +kernel
theorem dd_Mo_init_5 : decode bb_Mo_init 5 = .ok (.bipush (100), 2) := by decide +kernel
theorem dd_Mo_init_7 : decode bb_Mo_init 7 = .ok (.newarray .int, 2) := by decide +kernel
theorem dd_Mo_init_9 : decode bb_Mo_init 9 = .ok (.putfield 7, 3) := by decide +kernel
theorem dd_Mo_init_12 : decode bb_Mo_init 12 = .ok (.aload_n 0, 1) := by decide +kernel
theorem dd_Mo_init_13 : decode bb_Mo_init 13 = .ok (.sipush (480), 3) := by decide +kernel
theorem dd_Mo_init_16 : decode bb_Mo_init 16 = .ok (.newarray .int, 2) := by decide +kernel
theorem dd_Mo_init_18 : decode bb_Mo_init 18 = .ok (.putfield 13, 3) := by decide +kernel
theorem dd_Mo_init_21 : decode bb_Mo_init 21 = .ok (.aload_n 0, 1) := by decide +kernel
theorem dd_Mo_init_22 : decode bb_Mo_init 22 = .ok (.bipush (12), 2) := by decide +kernel
theorem dd_Mo_init_24 : decode bb_Mo_init 24 = .ok (.newarray .int, 2) := by decide +kernel
theorem dd_Mo_init_26 : decode bb_Mo_init 26 = .ok (.putfield 16, 3) := by decide +kernel
theorem dd_Mo_init_29 : decode bb_Mo_init 29 = .ok (.aload_n 0, 1) := by decide +kernel
theorem dd_Mo_init_30 : decode bb_Mo_init 30 = .ok (.bipush (12), 2) := by decide +kernel
theorem dd_Mo_init_32 : decode bb_Mo_init 32 = .ok (.newarray .int, 2) := by decide +kernel
theorem dd_Mo_init_34 : decode bb_Mo_init 34 = .ok (.putfield 19, 3) := by decide +kernel
theorem dd_Mo_init_37 : decode bb_Mo_init 37 = .ok (.aload_n 0, 1) := by decide +kernel
theorem dd_Mo_init_38 : decode bb_Mo_init 38 = .ok (.sipush (600), 3) := by decide +kernel
theorem dd_Mo_init_41 : decode bb_Mo_init 41 = .ok (.newarray .int, 2) := by decide +kernel
theorem dd_Mo_init_43 : decode bb_Mo_init 43 = .ok (.putfield 22, 3) := by decide +kernel
theorem dd_Mo_init_46 : decode bb_Mo_init 46 = .ok (.aload_n 0, 1) := by decide +kernel
theorem dd_Mo_init_47 : decode bb_Mo_init 47 = .ok (.iconst 4, 1) := by decide +kernel
theorem dd_Mo_init_48 : decode bb_Mo_init 48 = .ok (.newarray .long, 2) := by decide +kernel
theorem dd_Mo_init_50 : decode bb_Mo_init 50 = .ok (.putfield 25, 3) := by decide +kernel
theorem dd_Mo_init_53 : decode bb_Mo_init 53 = .ok (.aload_n 0, 1) := by decide +kernel
theorem dd_Mo_init_54 : decode bb_Mo_init 54 = .ok (.bipush (60), 2) := by decide +kernel
theorem dd_Mo_init_56 : decode bb_Mo_init 56 = .ok (.newarray .boolean, 2) := by decide +kernel
theorem dd_Mo_init_58 : decode bb_Mo_init 58 = .ok (.putfield 29, 3) := by decide +kernel
theorem dd_Mo_init_61 : decode bb_Mo_init 61 = .ok (.aload_n 0, 1) := by decide +kernel
theorem dd_Mo_init_62 : decode bb_Mo_init 62 = .ok (.bipush (60), 2) := by decide +kernel
theorem dd_Mo_init_64 : decode bb_Mo_init 64 = .ok (.newarray .int, 2) := by decide +kernel
theorem dd_Mo_init_66 : decode bb_Mo_init 66 = .ok (.putfield 33, 3) := by decide +kernel
theorem dd_Mo_init_69 : decode bb_Mo_init 69 = .ok (.aload_n 0, 1) := by decide +kernel
theorem dd_Mo_init_70 : decode bb_Mo_init 70 = .ok (.bipush (60), 2) := by decide +kernel
theorem dd_Mo_init_72 : decode bb_Mo_init 72 = .ok (.newarray .int, 2) := by decide +kernel
theorem dd_Mo_init_74 : decode bb_Mo_init 74 = .ok (.putfield 36, 3) := by decide +kernel
theorem dd_Mo_init_77 : decode bb_Mo_init 77 = .ok (.aload_n 0, 1) := by decide +kernel
theorem dd_Mo_init_78 : decode bb_Mo_init 78 = .ok (.bipush (60), 2) := by decide +kernel
theorem dd_Mo_init_80 : decode bb_Mo_init 80 = .ok (.newarray .int, 2) := by decide +kernel
theorem dd_Mo_init_82 : decode bb_Mo_init 82 = .ok (.putfield 39, 3) := by decide +kernel
theorem dd_Mo_init_85 : decode bb_Mo_init 85 = .ok (.aload_n 0, 1) := by decide +kernel
theorem dd_Mo_init_86 : decode bb_Mo_init 86 = .ok (.bipush (60), 2) := by decide +kernel
theorem dd_Mo_init_88 : decode bb_Mo_init 88 = .ok (.newarray .int, 2) := by decide +kernel
theorem dd_Mo_init_90 : decode bb_Mo_init 90 = .ok (.putfield 42, 3) := by decide +kernel
theorem dd_Mo_init_93 : decode bb_Mo_init 93 = .ok (.aload_n 0, 1) := by decide +kernel
theorem dd_Mo_init_94 : decode bb_Mo_init 94 = .ok (.bipush (60), 2) := by decide +kernel
theorem dd_Mo_init_96 : decode bb_Mo_init 96 = .ok (.newarray .int, 2) := by decide +kernel
theorem dd_Mo_init_98 : decode bb_Mo_init 98 = .ok (.putfield 45, 3) := by decide +kernel
theorem dd_Mo_init_101 : decode bb_Mo_init 101 = .ok (.aload_n 0, 1) := by decide +kernel
theorem dd_Mo_init_102 : decode bb_Mo_init 102 = .ok (.iconst 3, 1) := by decide +kernel
theorem dd_Mo_init_103 : decode bb_Mo_init 103 = .ok (.newarray .int, 2) := by decide +kernel
theorem dd_Mo_init_105 : decode bb_Mo_init 105 = .ok (.putfield 48, 3) := by decide +kernel
theorem dd_Mo_init_108 : decode bb_Mo_init 108 = .ok (.aload_n 0, 1) := by decide +kernel
theorem dd_Mo_init_109 : decode bb_Mo_init 109 = .ok (.iconst 3, 1) := by decide +kernel
theorem dd_Mo_init_110 : decode bb_Mo_init 110 = .ok (.newarray .int, 2) := by decide +kernel
theorem dd_Mo_init_112 : decode bb_Mo_init 112 = .ok (.putfield 51, 3) := by decide +kernel
theorem dd_Mo_init_115 : decode bb_Mo_init 115 = .ok (.aload_n 0, 1) := by decide +kernel
theorem dd_Mo_init_116 : decode bb_Mo_init 116 = .ok (.sipush (180), 3) := by decide +kernel
theorem dd_Mo_init_119 : decode bb_Mo_init 119 = .ok (.newarray .int, 2) := by decide +kernel
theorem dd_Mo_init_121 : decode bb_Mo_init 121 = .ok (.putfield 54, 3) := by decide +kernel
theorem dd_Mo_init_124 : decode bb_Mo_init 124 = .ok (.aload_n 0, 1) := by decide +kernel
theorem dd_Mo_init_125 : decode bb_Mo_init 125 = .ok (.sipush (180), 3) := by decide +kernel
theorem dd_Mo_init_128 : decode bb_Mo_init 128 = .ok (.newarray .int, 2) := by decide +kernel
theorem dd_Mo_init_130 : decode bb_Mo_init 130 = .ok (.putfield 57, 3) := by decide +kernel
theorem dd_Mo_init_133 : decode bb_Mo_init 133 = .ok (.aload_n 0, 1) := by decide +kernel
theorem dd_Mo_init_134 : decode bb_Mo_init 134 = .ok (.sipush (180), 3) := by decide +kernel
theorem dd_Mo_init_137 : decode bb_Mo_init 137 = .ok (.newarray .int, 2) := by decide +kernel
theorem dd_Mo_init_139 : decode bb_Mo_init 139 = .ok (.putfield 60, 3) := by decide +kernel
theorem dd_Mo_init_142 : decode bb_Mo_init 142 = .ok (.aload_n 0, 1) := by decide +kernel
theorem dd_Mo_init_143 : decode bb_Mo_init 143 = .ok (.sipush (180), 3) := by decide +kernel
theorem dd_Mo_init_146 : decode bb_Mo_init 146 = .ok (.newarray .int, 2) := by decide +kernel
theorem dd_Mo_init_148 : decode bb_Mo_init 148 = .ok (.putfield 63, 3) := by decide +kernel
theorem dd_Mo_init_151 : decode bb_Mo_init 151 = .ok (.aload_n 0, 1) := by decide +kernel
theorem dd_Mo_init_152 : decode bb_Mo_init 152 = .ok (.bipush (12), 2) := by decide +kernel
theorem dd_Mo_init_154 : decode bb_Mo_init 154 = .ok (.newarray .int, 2) := by decide +kernel
theorem dd_Mo_init_156 : decode bb_Mo_init 156 = .ok (.putfield 66, 3) := by decide +kernel
theorem dd_Mo_init_159 : decode bb_Mo_init 159 = .ok (.aload_n 0, 1) := by decide +kernel
theorem dd_Mo_init_160 : decode bb_Mo_init 160 = .ok (.iconst 3, 1) := by decide +kernel
theorem dd_Mo_init_161 : decode bb_Mo_init 161 = .ok (.newarray .int, 2) := by decide +kernel
theorem dd_Mo_init_163 : decode bb_Mo_init 163 = .ok (.putfield 69, 3) := by decide +kernel
theorem dd_Mo_init_166 : decode bb_Mo_init 166 = .ok (.aload_n 0, 1) := by decide +kernel
theorem dd_Mo_init_167 : decode bb_Mo_init 167 = .ok (.iconst 3, 1) := by decide +kernel
theorem dd_Mo_init_168 : decode bb_Mo_init 168 = .ok (.newarray .int, 2) := by decide +kernel
theorem dd_Mo_init_170 : decode bb_Mo_init 170 = .ok (.putfield 72, 3) := by decide +kernel
theorem dd_Mo_init_173 : decode bb_Mo_init 173 = .ok (.aload_n 0, 1) := by decide +kernel
theorem dd_Mo_init_174 : decode bb_Mo_init 174 = .ok (.iconst 4, 1) := by decide +kernel
theorem dd_Mo_init_175 : decode bb_Mo_init 175 = .ok (.newarray .int, 2) := by decide +kernel
theorem dd_Mo_init_177 : decode bb_Mo_init 177 = .ok (.putfield 75, 3) := by decide +kernel
theorem dd_Mo_init_180 : decode bb_Mo_init 180 = .ok (.aload_n 0, 1) := by decide +kernel
theorem dd_Mo_init_181 : decode bb_Mo_init 181 = .ok (.iconst 4, 1) := by decide +kernel
theorem dd_Mo_init_182 : decode bb_Mo_init 182 = .ok (.newarray .int, 2) := by decide +kernel
theorem dd_Mo_init_184 : decode bb_Mo_init 184 = .ok (.putfield 78, 3) := by decide +kernel
theorem dd_Mo_init_187 : decode bb_Mo_init 187 = .ok (.aload_n 0, 1) := by decide +kernel
theorem dd_Mo_init_188 : decode bb_Mo_init 188 = .ok (.iconst 4, 1) := by decide +kernel
theorem dd_Mo_init_189 : decode bb_Mo_init 189 = .ok (.newarray .int, 2) := by decide +kernel
theorem dd_Mo_init_191 : decode bb_Mo_init 191 = .ok (.putfield 81, 3) := by decide +kernel
theorem dd_Mo_init_194 : decode bb_Mo_init 194 = .ok (.aload_n 0, 1) := by decide +kernel
theorem dd_Mo_init_195 : decode bb_Mo_init 195 = .ok (.bipush (48), 2) := by decide +kernel
theorem dd_Mo_init_197 : decode bb_Mo_init 197 = .ok (.newarray .int, 2) := by decide +kernel
theorem dd_Mo_init_199 : decode bb_Mo_init 199 = .ok (.putfield 84, 3) := by decide +kernel
theorem dd_Mo_init_202 : decode bb_Mo_init 202 = .ok (.aload_n 0, 1) := by decide +kernel
theorem dd_Mo_init_203 : decode bb_Mo_init 203 = .ok (.iconst 4, 1) := by decide +kernel
theorem dd_Mo_init_204 : decode bb_Mo_init 204 = .ok (.newarray .int, 2) := by decide +kernel
theorem dd_Mo_init_206 : decode bb_Mo_init 206 = .ok (.putfield 87, 3) := by decide +kernel
theorem dd_Mo_init_209 : decode bb_Mo_init 209 = .ok (.aload_n 0, 1) := by decide +kernel
theorem dd_Mo_init_210 : decode bb_Mo_init 210 = .ok (.bipush (16), 2) := by decide +kernel
theorem dd_Mo_init_212 : decode bb_Mo_init 212 = .ok (.newarray .int, 2) := by decide +kernel
theorem dd_Mo_init_214 : decode bb_Mo_init 214 = .ok (.putfield 90, 3) := by decide +kernel
theorem dd_Mo_init_217 : decode bb_Mo_init 217 = .ok (.aload_n 0, 1) := by decide +kernel
theorem dd_Mo_init_218 : decode bb_Mo_init 218 = .ok (.iconst 4, 1) := by decide +kernel
theorem dd_Mo_init_219 : decode bb_Mo_init 219 = .ok (.newarray .int, 2) := by decide +kernel
theorem dd_Mo_init_221 : decode bb_Mo_init 221 = .ok (.putfield 93, 3) := by decide +kernel
theorem dd_Mo_init_224 : decode bb_Mo_init 224 = .ok (.aload_n 0, 1) := by decide +kernel
theorem dd_Mo_init_225 : decode bb_Mo_init 225 = .ok (.bipush (60), 2) := by decide +kernel
theorem dd_Mo_init_227 : decode bb_Mo_init 227 = .ok (.newarray .int, 2) := by decide +kernel
theorem dd_Mo_init_229 : decode bb_Mo_init 229 = .ok (.putfield 96, 3) := by decide +kernel
theorem dd_Mo_init_232 : decode bb_Mo_init 232 = .ok (.aload_n 0, 1) := by decide +kernel
theorem dd_Mo_init_233 : decode bb_Mo_init 233 = .ok (.iconst 4, 1) := by decide +kernel
theorem dd_Mo_init_234 : decode bb_Mo_init 234 = .ok (.newarray .int, 2) := by decide +kernel
theorem dd_Mo_init_236 : decode bb_Mo_init 236 = .ok (.putfield 99, 3) := by decide +kernel
theorem dd_Mo_init_239 : decode bb_Mo_init 239 = .ok (.aload_n 0, 1) := by decide +kernel
theorem dd_Mo_init_240 : decode bb_Mo_init 240 = .ok (.bipush (12), 2) := by decide +kernel
theorem dd_Mo_init_242 : decode bb_Mo_init 242 = .ok (.newarray .int, 2) := by decide +kernel
theorem dd_Mo_init_244 : decode bb_Mo_init 244 = .ok (.putfield 102, 3) := by decide +kernel
theorem dd_Mo_init_247 : decode bb_Mo_init 247 = .ok (.aload_n 0, 1) := by decide +kernel
theorem dd_Mo_init_248 : decode bb_Mo_init 248 = .ok (.bipush (100), 2) := by decide +kernel
theorem dd_Mo_init_250 : decode bb_Mo_init 250 = .ok (.newarray .int, 2) := by decide +kernel
theorem dd_Mo_init_252 : decode bb_Mo_init 252 = .ok (.putfield 105, 3) := by decide +kernel
theorem dd_Mo_init_255 : decode bb_Mo_init 255 = .ok (.aload_n 0, 1) := by decide +kernel
theorem dd_Mo_init_256 : decode bb_Mo_init 256 = .ok (.iload_n 1, 1) := by decide +kernel
theorem dd_Mo_init_257 : decode bb_Mo_init 257 = .ok (.bipush (32), 2) := by decide +kernel
theorem dd_Mo_init_259 : decode bb_Mo_init 259 = .ok (.if_icmp .ge (8), 3) := by decide +kernel
theorem dd_Mo_init_262 : decode bb_Mo_init 262 = .ok (.bipush (32), 2) := by decide +kernel
theorem dd_Mo_init_264 : decode bb_Mo_init 264 = .ok (.goto (17), 3) := by decide +kernel
theorem dd_Mo_init_267 : decode bb_Mo_init 267 = .ok (.iload_n 1, 1) := by decide +kernel
theorem dd_Mo_init_268 : decode bb_Mo_init 268 = .ok (.sipush (256), 3) := by decide +kernel
theorem dd_Mo_init_271 : decode bb_Mo_init 271 = .ok (.if_icmp .le (9), 3) := by decide +kernel
theorem dd_Mo_init_274 : decode bb_Mo_init 274 = .ok (.sipush (256), 3) := by decide +kernel
theorem dd_Mo_init_277 : decode bb_Mo_init 277 = .ok (.goto (4), 3) := by decide +kernel
theorem dd_Mo_init_280 : decode bb_Mo_init 280 = .ok (.iload_n 1, 1) := by decide +kernel
theorem dd_Mo_init_281 : decode bb_Mo_init 281 = .ok (.putfield 108, 3) := by decide +kernel
theorem dd_Mo_init_284 : decode bb_Mo_init 284 = .ok (.aload_n 0, 1) := by decide +kernel
theorem dd_Mo_init_285 : decode bb_Mo_init 285 = .ok (.iconst 1, 1) := by decide +kernel
theorem dd_Mo_init_286 : decode bb_Mo_init 286 = .ok (.putfield 112, 3) := by decide +kernel
theorem dd_Mo_init_289 : decode bb_Mo_init 289 = .ok (.aload_n 0, 1) := by decide +kernel
theorem dd_Mo_init_290 : decode bb_Mo_init 290 = .ok (.iconst (-1), 1) := by decide +kernel
theorem dd_Mo_init_291 : decode bb_Mo_init 291 = .ok (.putfield 115, 3) := by decide +kernel
theorem dd_Mo_init_294 : decode bb_Mo_init 294 = .ok (.return_, 1) := by decide +kernel
theorem dd_Mo_put_0 : decode bb_Mo_put 0 = .ok (.iload_n 2, 1) := by decide +kernel
theorem dd_Mo_put_1 : decode bb_Mo_put 1 = .ok (.iconst 1, 1) := by decide +kernel
theorem dd_Mo_put_2 : decode bb_Mo_put 2 = .ok (.iconst 4, 1) := by decide +kernel
theorem dd_Mo_put_3 : decode bb_Mo_put 3 = .ok (.invokestatic 118, 3) := by decide +kernel
theorem dd_Mo_put_6 : decode bb_Mo_put 6 = .ok (.ifCond .ne (14), 3) := by decide +kernel
theorem dd_Mo_put_9 : decode bb_Mo_put 9 = .ok (.aload_n 0, 1) := by decide +kernel
theorem dd_Mo_put_10 : decode bb_Mo_put 10 = .ok (.getfield 122, 3) := by decide +kernel
theorem dd_Mo_put_13 : decode bb_Mo_put 13 = .ok (.iload_n 2, 1) := by decide +kernel
theorem dd_Mo_put_14 : decode bb_Mo_put 14 = .ok (.iadd, 1) := by decide +kernel
theorem dd_Mo_put_15 : decode bb_Mo_put 15 = .ok (.bipush (100), 2) := by decide +kernel
theorem dd_Mo_put_17 : decode bb_Mo_put 17 = .ok (.if_icmp .le (5), 3) := by decide +kernel
theorem dd_Mo_put_20 : decode bb_Mo_put 20 = .ok (.iconst 0, 1) := by decide +kernel
theorem dd_Mo_put_21 : decode bb_Mo_put 21 = .ok (.ireturn, 1) := by decide +kernel
theorem dd_Mo_put_22 : decode bb_Mo_put 22 = .ok (.iload_n 2, 1) := by decide +kernel
theorem dd_Mo_put_23 : decode bb_Mo_put 23 = .ok (.iconst 1, 1) := by decide +kernel
theorem dd_Mo_put_24 : decode bb_Mo_put 24 = .ok (.isub, 1) := by decide +kernel
theorem dd_Mo_put_25 : decode bb_Mo_put 25 = .ok (.istore_n 3, 1) := by decide +kernel
theorem dd_Mo_put_26 : decode bb_Mo_put 26 = .ok (.iload_n 3, 1) := by decide +kernel
theorem dd_Mo_put_27 : decode bb_Mo_put 27 = .ok (.ifCond .lt (38), 3) := by decide +kernel
theorem dd_Mo_put_30 : decode bb_Mo_put 30 = .ok (.aload_n 0, 1) := by decide +kernel
theorem dd_Mo_put_31 : decode bb_Mo_put 31 = .ok (.getfield 7, 3) := by decide +kernel
theorem dd_Mo_put_34 : decode bb_Mo_put 34 = .ok (.aload_n 0, 1) := by decide +kernel
theorem dd_Mo_put_35 : decode bb_Mo_put 35 = .ok (.getfield 122, 3) := by decide +kernel
theorem dd_Mo_put_38 : decode bb_Mo_put 38 = .ok (.iload_n 1, 1) := by decide +kernel
theorem dd_Mo_put_39 : decode bb_Mo_put 39 = .ok (.bipush (8), 2) := by decide +kernel
theorem dd_Mo_put_41 : decode bb_Mo_put 41 = .ok (.iload_n 3, 1) := by decide +kernel
theorem dd_Mo_put_42 : decode bb_Mo_put 42 = .ok (.imul, 1) := by decide +kernel
theorem dd_Mo_put_43 : decode bb_Mo_put 43 = .ok (.ishr, 1) := by decide +kernel
theorem dd_Mo_put_44 : decode bb_Mo_put 44 = .ok (.sipush (255), 3) := by decide +kernel
theorem dd_Mo_put_47 : decode bb_Mo_put 47 = .ok (.iand, 1) := by decide +kernel
theorem dd_Mo_put_48 : decode bb_Mo_put 48 = .ok (.iastore, 1) := by decide +kernel
theorem dd_Mo_put_49 : decode bb_Mo_put 49 = .ok (.aload_n 0, 1) := by decide +kernel
theorem dd_Mo_put_50 : decode bb_Mo_put 50 = .ok (.dup, 1) := by decide +kernel
theorem dd_Mo_put_51 : decode bb_Mo_put 51 = .ok (.getfield 122, 3) := by decide +kernel
theorem dd_Mo_put_54 : decode bb_Mo_put 54 = .ok (.iconst 1, 1) := by decide +kernel
theorem dd_Mo_put_55 : decode bb_Mo_put 55 = .ok (.iadd, 1) := by decide +kernel
theorem dd_Mo_put_56 : decode bb_Mo_put 56 = .ok (.putfield 122, 3) := by decide +kernel
theorem dd_Mo_put_59 : decode bb_Mo_put 59 = .ok (.iinc 3 (-1), 3) := by decide +kernel
theorem dd_Mo_put_62 : decode bb_Mo_put 62 = .ok (.goto (-36), 3) := by decide +kernel
theorem dd_Mo_put_65 : decode bb_Mo_put 65 = .ok (.iconst 1, 1) := by decide +kernel
theorem dd_Mo_put_66 : decode bb_Mo_put 66 = .ok (.ireturn, 1) := by decide +kernel
theorem dd_Mo_outside_0 : decode bb_Mo_outside 0 = .ok (.iload_n 0, 1) := by decide +kernel
theorem dd_Mo_outside_1 : decode bb_Mo_outside 1 = .ok (.iload_n 1, 1) := by decide +kernel
theorem dd_Mo_outside_2 : decode bb_Mo_outside 2 = .ok (.if_icmp .lt (8), 3) := by decide +kernel
theorem dd_Mo_outside_5 : decode bb_Mo_outside 5 = .ok (.iload_n 0, 1) := by decide +kernel
theorem dd_Mo_outside_6 : decode bb_Mo_outside 6 = .ok (.iload_n 2, 1) := by decide +kernel
theorem dd_Mo_outside_7 : decode bb_Mo_outside 7 = .ok (.if_icmp .le (7), 3) := by decide +kernel
theorem dd_Mo_outside_10 : decode bb_Mo_outside 10 = .ok (.iconst 1, 1) := by decide +kernel
theorem dd_Mo_outside_11 : decode bb_Mo_outside 11 = .ok (.goto (4), 3) := by decide +kernel
theorem dd_Mo_outside_14 : decode bb_Mo_outside 14 = .ok (.iconst 0, 1) := by decide +kernel
theorem dd_Mo_outside_15 : decode bb_Mo_outside 15 = .ok (.ireturn, 1) := by decide +kernel
theorem dd_Mo_id_0 : decode bb_Mo_id 0 = .ok (.aload_n 0, 1) := by decide +kernel
theorem dd_Mo_id_1 : decode bb_Mo_id 1 = .ok (.getfield 122, 3) := by decide +kernel
theorem dd_Mo_id_4 : decode bb_Mo_id 4 = .ok (.istore_n 1, 1) := by decide +kernel
theorem dd_Mo_id_5 : decode bb_Mo_id 5 = .ok (.aload_n 0, 1) := by decide +kernel
theorem dd_Mo_id_6 : decode bb_Mo_id 6 = .ok (.iconst 0, 1) := by decide +kernel
theorem dd_Mo_id_7 : decode bb_Mo_id 7 = .ok (.putfield 122, 3) := by decide +kernel
theorem dd_Mo_id_10 : decode bb_Mo_id 10 = .ok (.aload_n 0, 1) := by decide +kernel
theorem dd_Mo_id_11 : decode bb_Mo_id 11 = .ok (.iload_n 1, 1) := by decide +kernel
theorem dd_Mo_id_12 : decode bb_Mo_id 12 = .ok (.invokevirtual 157, 3) := by decide +kernel
theorem dd_Mo_id_15 : decode bb_Mo_id 15 = .ok (.ireturn, 1) := by decide +kernel
theorem dd_Mo_identify_0 : decode bb_Mo_identify 0 = .ok (.aload_n 0, 1) := by decide +kernel
theorem dd_Mo_identify_1 : decode bb_Mo_identify 1 = .ok (.iconst 0, 1) := by decide +kernel
theorem dd_Mo_identify_2 : decode bb_Mo_identify 2 = .ok (.iload_n 1, 1) := by decide +kernel
theorem dd_Mo_identify_3 : decode bb_Mo_identify 3 = .ok (.invokevirtual 147, 3) := by decide +kernel
theorem dd_Mo_identify_6 : decode bb_Mo_identify 6 = .ok (.istore_n 2, 1) := by decide +kernel
theorem dd_Mo_identify_7 : decode bb_Mo_identify 7 = .ok (.iload_n 2, 1) := by decide +kernel
theorem dd_Mo_identify_8 : decode bb_Mo_identify 8 = .ok (.ifCond .lt (7), 3) := by decide +kernel
theorem dd_Mo_identify_11 : decode bb_Mo_identify 11 = .ok (.iconst (-1), 1) := by decide +kernel
theorem dd_Mo_identify_12 : decode bb_Mo_identify 12 = .ok (.iload_n 2, 1) := by decide +kernel
theorem dd_Mo_identify_13 : decode bb_Mo_identify 13 = .ok (.isub, 1) := by decide +kernel
theorem dd_Mo_identify_14 : decode bb_Mo_identify 14 = .ok (.ireturn, 1) := by decide +kernel
theorem dd_Mo_identify_15 : decode bb_Mo_identify 15 = .ok (.iconst 0, 1) := by decide +kernel
theorem dd_Mo_identify_16 : decode bb_Mo_identify 16 = .ok (.istore_n 3, 1) := by decide +kernel
theorem dd_Mo_identify_17 : decode bb_Mo_identify 17 = .ok (.iload_n 3, 1) := by decide +kernel
theorem dd_Mo_identify_18 : decode bb_Mo_identify 18 = .ok (.aload_n 0, 1) := by decide +kernel
theorem dd_Mo_identify_19 : decode bb_Mo_identify 19 = .ok (.getfield 150, 3) := by decide +kernel
theorem dd_Mo_identify_22 : decode bb_Mo_identify 22 = .ok (.if_icmp .ge (20), 3) := by decide +kernel
theorem dd_Mo_identify_25 : decode bb_Mo_identify 25 = .ok (.aload_n 0, 1) := by decide +kernel
theorem dd_Mo_identify_26 : decode bb_Mo_identify 26 = .ok (.iload_n 3, 1) := by decide +kernel
theorem dd_Mo_identify_27 : decode bb_Mo_identify 27 = .ok (.iload_n 1, 1) := by decide +kernel
theorem dd_Mo_identify_28 : decode bb_Mo_identify 28 = .ok (.invokevirtual 153, 3) := by decide +kernel
theorem dd_Mo_identify_31 : decode bb_Mo_identify 31 = .ok (.ifCond .eq (5), 3) := by decide +kernel
theorem dd_Mo_identify_34 : decode bb_Mo_identify 34 = .ok (.iload_n 3, 1) := by decide +kernel
theorem dd_Mo_identify_35 : decode bb_Mo_identify 35 = .ok (.ireturn, 1) := by decide +kernel
theorem dd_Mo_identify_36 : decode bb_Mo_identify 36 = .ok (.iinc 3 (1), 3) := by decide +kernel
theorem dd_Mo_identify_39 : decode bb_Mo_identify 39 = .ok (.goto (-22), 3) := by decide +kernel
theorem dd_Mo_identify_42 : decode bb_Mo_identify 42 = .ok (.aload_n 0, 1) := by decide +kernel
theorem dd_Mo_identify_43 : decode bb_Mo_identify 43 = .ok (.getfield 150, 3) := by decide +kernel
theorem dd_Mo_identify_46 : decode bb_Mo_identify 46 = .ok (.bipush (12), 2) := by decide +kernel
theorem dd_Mo_identify_48 : decode bb_Mo_identify 48 = .ok (.if_icmp .ne (7), 3) := by decide +kernel
theorem dd_Mo_identify_51 : decode bb_Mo_identify 51 = .ok (.sipush (-1003), 3) := by decide +kernel
theorem dd_Mo_identify_54 : decode bb_Mo_identify 54 = .ok (.ireturn, 1) := by decide +kernel
theorem dd_Mo_identify_55 : decode bb_Mo_identify 55 = .ok (.iconst 0, 1) := by decide +kernel
theorem dd_Mo_identify_56 : decode bb_Mo_identify 56 = .ok (.istore_n 3, 1) := by decide +kernel
theorem dd_Mo_identify_57 : decode bb_Mo_identify 57 = .ok (.iload_n 3, 1) := by decide +kernel
theorem dd_Mo_identify_58 : decode bb_Mo_identify 58 = .ok (.iload_n 1, 1) := by decide +kernel
theorem dd_Mo_identify_59 : decode bb_Mo_identify 59 = .ok (.if_icmp .ge (29), 3) := by decide +kernel
theorem dd_Mo_identify_62 : decode bb_Mo_identify 62 = .ok (.aload_n 0, 1) := by decide +kernel
theorem dd_Mo_identify_63 : decode bb_Mo_identify 63 = .ok (.getfield 13, 3) := by decide +kernel
theorem dd_Mo_identify_66 : decode bb_Mo_identify 66 = .ok (.bipush (40), 2) := by decide +kernel
theorem dd_Mo_identify_68 : decode bb_Mo_identify 68 = .ok (.aload_n 0, 1) := by decide +kernel
theorem dd_Mo_identify_69 : decode bb_Mo_identify 69 = .ok (.getfield 150, 3) := by decide +kernel
theorem dd_Mo_identify_72 : decode bb_Mo_identify 72 = .ok (.imul, 1) := by decide +kernel
theorem dd_Mo_identify_73 : decode bb_Mo_identify 73 = .ok (.iload_n 3, 1) := by decide +kernel
theorem dd_Mo_identify_74 : decode bb_Mo_identify 74 = .ok (.iadd, 1) := by decide +kernel
theorem dd_Mo_identify_75 : decode bb_Mo_identify 75 = .ok (.aload_n 0, 1) := by decide +kernel
theorem dd_Mo_identify_76 : decode bb_Mo_identify 76 = .ok (.getfield 7, 3) := by decide +kernel
theorem dd_Mo_identify_79 : decode bb_Mo_identify 79 = .ok (.iload_n 3, 1) := by decide +kernel
theorem dd_Mo_identify_80 : decode bb_Mo_identify 80 = .ok (.iaload, 1) := by decide +kernel
theorem dd_Mo_identify_81 : decode bb_Mo_identify 81 = .ok (.iastore, 1) := by decide +kernel
theorem dd_Mo_identify_82 : decode bb_Mo_identify 82 = .ok (.iinc 3 (1), 3) := by decide +kernel
theorem dd_Mo_identify_85 : decode bb_Mo_identify 85 = .ok (.goto (-28), 3) := by decide +kernel
theorem dd_Mo_identify_88 : decode bb_Mo_identify 88 = .ok (.aload_n 0, 1) := by decide +kernel
theorem dd_Mo_identify_89 : decode bb_Mo_identify 89 = .ok (.getfield 16, 3) := by decide +kernel
theorem dd_Mo_identify_92 : decode bb_Mo_identify 92 = .ok (.aload_n 0, 1) := by decide +kernel
theorem dd_Mo_identify_93 : decode bb_Mo_identify 93 = .ok (.getfield 150, 3) := by decide +kernel
theorem dd_Mo_identify_96 : decode bb_Mo_identify 96 = .ok (.iload_n 1, 1) := by decide +kernel
theorem dd_Mo_identify_97 : decode bb_Mo_identify 97 = .ok (.iastore, 1) := by decide +kernel
theorem dd_Mo_identify_98 : decode bb_Mo_identify 98 = .ok (.aload_n 0, 1) := by decide +kernel
theorem dd_Mo_identify_99 : decode bb_Mo_identify 99 = .ok (.getfield 19, 3) := by decide +kernel
theorem dd_Mo_identify_102 : decode bb_Mo_identify 102 = .ok (.aload_n 0, 1) := by decide +kernel
theorem dd_Mo_identify_103 : decode bb_Mo_identify 103 = .ok (.getfield 150, 3) := by decide +kernel
theorem dd_Mo_identify_106 : decode bb_Mo_identify 106 = .ok (.aload_n 0, 1) := by decide +kernel
theorem dd_Mo_identify_107 : decode bb_Mo_identify 107 = .ok (.getfield 137, 3) := by decide +kernel
theorem dd_Mo_identify_110 : decode bb_Mo_identify 110 = .ok (.iastore, 1) := by decide +kernel
theorem dd_Mo_identify_111 : decode bb_Mo_identify 111 = .ok (.aload_n 0, 1) := by decide +kernel
theorem dd_Mo_identify_112 : decode bb_Mo_identify 112 = .ok (.dup, 1) := by decide +kernel
theorem dd_Mo_identify_113 : decode bb_Mo_identify 113 = .ok (.getfield 150, 3) := by decide +kernel
theorem dd_Mo_identify_116 : decode bb_Mo_identify 116 = .ok (.iconst 1, 1) := by decide +kernel
theorem dd_Mo_identify_117 : decode bb_Mo_identify 117 = .ok (.iadd, 1) := by decide +kernel
theorem dd_Mo_identify_118 : decode bb_Mo_identify 118 = .ok (.putfield 150, 3) := by decide +kernel
theorem dd_Mo_identify_121 : decode bb_Mo_identify 121 = .ok (.aload_n 0, 1) := by decide +kernel
theorem dd_Mo_identify_122 : decode bb_Mo_identify 122 = .ok (.getfield 150, 3) := by decide +kernel
theorem dd_Mo_identify_125 : decode bb_Mo_identify 125 = .ok (.iconst 1, 1) := by decide +kernel
theorem dd_Mo_identify_126 : decode bb_Mo_identify 126 = .ok (.isub, 1) := by decide +kernel
theorem dd_Mo_identify_127 : decode bb_Mo_identify 127 = .ok (.ireturn, 1) := by decide +kernel
theorem dd_Mo_idError_0 : decode bb_Mo_idError 0 = .ok (.aload_n 0, 1) := by decide +kernel
theorem dd_Mo_idError_1 : decode bb_Mo_idError 1 = .ok (.iload_n 1, 1) := by decide +kernel
theorem dd_Mo_idError_2 : decode bb_Mo_idError 2 = .ok (.iload_n 2, 1) := by decide +kernel
theorem dd_Mo_idError_3 : decode bb_Mo_idError 3 = .ok (.invokevirtual 143, 3) := by decide +kernel
theorem dd_Mo_idError_6 : decode bb_Mo_idError 6 = .ok (.istore_n 3, 1) := by decide +kernel
theorem dd_Mo_idError_7 : decode bb_Mo_idError 7 = .ok (.iload_n 2, 1) := by decide +kernel
theorem dd_Mo_idError_8 : decode bb_Mo_idError 8 = .ok (.bipush (40), 2) := by decide +kernel
theorem dd_Mo_idError_10 : decode bb_Mo_idError 10 = .ok (.if_icmp .le (14), 3) := by decide +kernel
theorem dd_Mo_idError_13 : decode bb_Mo_idError 13 = .ok (.iload_n 3, 1) := by decide +kernel
theorem dd_Mo_idError_14 : decode bb_Mo_idError 14 = .ok (.bipush (40), 2) := by decide +kernel
theorem dd_Mo_idError_16 : decode bb_Mo_idError 16 = .ok (.if_icmp .le (8), 3) := by decide +kernel
theorem dd_Mo_idError_19 : decode bb_Mo_idError 19 = .ok (.bipush (40), 2) := by decide +kernel
theorem dd_Mo_idError_21 : decode bb_Mo_idError 21 = .ok (.goto (4), 3) := by decide +kernel
theorem dd_Mo_idError_24 : decode bb_Mo_idError 24 = .ok (.iload_n 3, 1) := by decide +kernel
theorem dd_Mo_idError_25 : decode bb_Mo_idError 25 = .ok (.istore 4, 2) := by decide +kernel
theorem dd_Mo_idError_27 : decode bb_Mo_idError 27 = .ok (.iload 4, 2) := by decide +kernel
theorem dd_Mo_idError_29 : decode bb_Mo_idError 29 = .ok (.iload_n 2, 1) := by decide +kernel
theorem dd_Mo_idError_30 : decode bb_Mo_idError 30 = .ok (.if_icmp .le (7), 3) := by decide +kernel
theorem dd_Mo_idError_33 : decode bb_Mo_idError 33 = .ok (.iconst (-1), 1) := by decide +kernel
theorem dd_Mo_idError_34 : decode bb_Mo_idError 34 = .ok (.goto (5), 3) := by decide +kernel
theorem dd_Mo_idError_37 : decode bb_Mo_idError 37 = .ok (.iload 4, 2) := by decide +kernel
theorem dd_Mo_idError_39 : decode bb_Mo_idError 39 = .ok (.ireturn, 1) := by decide +kernel
theorem dd_Mo_errorBySigns_0 : decode bb_Mo_errorBySigns 0 = .ok (.iconst 0, 1) := by decide +kernel
theorem dd_Mo_errorBySigns_1 : decode bb_Mo_errorBySigns 1 = .ok (.istore_n 3, 1) := by decide +kernel
theorem dd_Mo_errorBySigns_2 : decode bb_Mo_errorBySigns 2 = .ok (.iload_n 3, 1) := by decide +kernel
theorem dd_Mo_errorBySigns_3 : decode bb_Mo_errorBySigns 3 = .ok (.bipush (9), 2) := by decide +kernel
theorem dd_Mo_errorBySigns_5 : decode bb_Mo_errorBySigns 5 = .ok (.if_icmp .ge (25), 3) := by decide +kernel
theorem dd_Mo_errorBySigns_8 : decode bb_Mo_errorBySigns 8 = .ok (.aload_n 0, 1) := by decide +kernel
theorem dd_Mo_errorBySigns_9 : decode bb_Mo_errorBySigns 9 = .ok (.iload_n 1, 1) := by decide +kernel
theorem dd_Mo_errorBySigns_10 : decode bb_Mo_errorBySigns 10 = .ok (.iload_n 2, 1) := by decide +kernel
theorem dd_Mo_errorBySigns_11 : decode bb_Mo_errorBySigns 11 = .ok (.iload_n 3, 1) := by decide +kernel
theorem dd_Mo_errorBySigns_12 : decode bb_Mo_errorBySigns 12 = .ok (.invokevirtual 129, 3) := by decide +kernel
theorem dd_Mo_errorBySigns_15 : decode bb_Mo_errorBySigns 15 = .ok (.iload_n 3, 1) := by decide +kernel
theorem dd_Mo_errorBySigns_16 : decode bb_Mo_errorBySigns 16 = .ok (.invokestatic 133, 3) := by decide +kernel
theorem dd_Mo_errorBySigns_19 : decode bb_Mo_errorBySigns 19 = .ok (.if_icmp .eq (5), 3) := by decide +kernel
theorem dd_Mo_errorBySigns_22 : decode bb_Mo_errorBySigns 22 = .ok (.iload_n 3, 1) := by decide +kernel
theorem dd_Mo_errorBySigns_23 : decode bb_Mo_errorBySigns 23 = .ok (.ireturn, 1) := by decide +kernel
theorem dd_Mo_errorBySigns_24 : decode bb_Mo_errorBySigns 24 = .ok (.iinc 3 (1), 3) := by decide +kernel
theorem dd_Mo_errorBySigns_27 : decode bb_Mo_errorBySigns 27 = .ok (.goto (-25), 3) := by decide +kernel
theorem dd_Mo_errorBySigns_30 : decode bb_Mo_errorBySigns 30 = .ok (.bipush (9), 2) := by decide +kernel
theorem dd_Mo_errorBySigns_32 : decode bb_Mo_errorBySigns 32 = .ok (.istore_n 3, 1) := by decide +kernel
theorem dd_Mo_errorBySigns_33 : decode bb_Mo_errorBySigns 33 = .ok (.iload_n 3, 1) := by decide +kernel
theorem dd_Mo_errorBySigns_34 : decode bb_Mo_errorBySigns 34 = .ok (.bipush (21), 2) := by decide +kernel
theorem dd_Mo_errorBySigns_36 : decode bb_Mo_errorBySigns 36 = .ok (.if_icmp .ge (22), 3) := by decide +kernel
theorem dd_Mo_errorBySigns_39 : decode bb_Mo_errorBySigns 39 = .ok (.aload_n 0, 1) := by decide +kernel
theorem dd_Mo_errorBySigns_40 : decode bb_Mo_errorBySigns 40 = .ok (.iload_n 1, 1) := by decide +kernel
theorem dd_Mo_errorBySigns_41 : decode bb_Mo_errorBySigns 41 = .ok (.iload_n 2, 1) := by decide +kernel
theorem dd_Mo_errorBySigns_42 : decode bb_Mo_errorBySigns 42 = .ok (.iload_n 3, 1) := by decide +kernel
theorem dd_Mo_errorBySigns_43 : decode bb_Mo_errorBySigns 43 = .ok (.invokevirtual 129, 3) := by decide +kernel
theorem dd_Mo_errorBySigns_46 : decode bb_Mo_errorBySigns 46 = .ok (.invokestatic 125, 3) := by decide +kernel
theorem dd_Mo_errorBySigns_49 : decode bb_Mo_errorBySigns 49 = .ok (.ifCond .eq (9), 3) := by decide +kernel
theorem dd_Mo_errorBySigns_52 : decode bb_Mo_errorBySigns 52 = .ok (.iinc 3 (1), 3) := by decide +kernel
theorem dd_Mo_errorBySigns_55 : decode bb_Mo_errorBySigns 55 = .ok (.goto (-22), 3) := by decide +kernel
theorem dd_Mo_errorBySigns_58 : decode bb_Mo_errorBySigns 58 = .ok (.aload_n 0, 1) := by decide +kernel
theorem dd_Mo_errorBySigns_59 : decode bb_Mo_errorBySigns 59 = .ok (.iload_n 3, 1) := by decide +kernel
theorem dd_Mo_errorBySigns_60 : decode bb_Mo_errorBySigns 60 = .ok (.putfield 137, 3) := by decide +kernel
theorem dd_Mo_errorBySigns_63 : decode bb_Mo_errorBySigns 63 = .ok (.iload_n 3, 1) := by decide +kernel
theorem dd_Mo_errorBySigns_64 : decode bb_Mo_errorBySigns 64 = .ok (.bipush (9), 2) := by decide +kernel
theorem dd_Mo_errorBySigns_66 : decode bb_Mo_errorBySigns 66 = .ok (.if_icmp .ne (5), 3) := by decide +kernel
theorem dd_Mo_errorBySigns_69 : decode bb_Mo_errorBySigns 69 = .ok (.iload_n 3, 1) := by decide +kernel
theorem dd_Mo_errorBySigns_70 : decode bb_Mo_errorBySigns 70 = .ok (.ireturn, 1) := by decide +kernel
theorem dd_Mo_errorBySigns_71 : decode bb_Mo_errorBySigns 71 = .ok (.iload_n 3, 1) := by decide +kernel
theorem dd_Mo_errorBySigns_72 : decode bb_Mo_errorBySigns 72 = .ok (.iload_n 2, 1) := by decide +kernel
theorem dd_Mo_errorBySigns_73 : decode bb_Mo_errorBySigns 73 = .ok (.if_icmp .ge (112), 3) := by decide +kernel
theorem dd_Mo_errorBySigns_76 : decode bb_Mo_errorBySigns 76 = .ok (.aload_n 0, 1) := by decide +kernel
theorem dd_Mo_errorBySigns_77 : decode bb_Mo_errorBySigns 77 = .ok (.iload_n 1, 1) := by decide +kernel
theorem dd_Mo_errorBySigns_78 : decode bb_Mo_errorBySigns 78 = .ok (.iload_n 2, 1) := by decide +kernel
theorem dd_Mo_errorBySigns_79 : decode bb_Mo_errorBySigns 79 = .ok (.iload_n 3, 1) := by decide +kernel
theorem dd_Mo_errorBySigns_80 : decode bb_Mo_errorBySigns 80 = .ok (.invokevirtual 129, 3) := by decide +kernel
theorem dd_Mo_errorBySigns_83 : decode bb_Mo_errorBySigns 83 = .ok (.bipush (47), 2) := by decide +kernel
theorem dd_Mo_errorBySigns_85 : decode bb_Mo_errorBySigns 85 = .ok (.if_icmp .eq (5), 3) := by decide +kernel
theorem dd_Mo_errorBySigns_88 : decode bb_Mo_errorBySigns 88 = .ok (.iload_n 3, 1) := by decide +kernel
theorem dd_Mo_errorBySigns_89 : decode bb_Mo_errorBySigns 89 = .ok (.ireturn, 1) := by decide +kernel
theorem dd_Mo_errorBySigns_90 : decode bb_Mo_errorBySigns 90 = .ok (.iload_n 3, 1) := by decide +kernel
theorem dd_Mo_errorBySigns_91 : decode bb_Mo_errorBySigns 91 = .ok (.iconst 1, 1) := by decide +kernel
theorem dd_Mo_errorBySigns_92 : decode bb_Mo_errorBySigns 92 = .ok (.iadd, 1) := by decide +kernel
theorem dd_Mo_errorBySigns_93 : decode bb_Mo_errorBySigns 93 = .ok (.istore 4, 2) := by decide +kernel
theorem dd_Mo_errorBySigns_95 : decode bb_Mo_errorBySigns 95 = .ok (.iload 4, 2) := by decide +kernel
theorem dd_Mo_errorBySigns_97 : decode bb_Mo_errorBySigns 97 = .ok (.istore_n 3, 1) := by decide +kernel
theorem dd_Mo_errorBySigns_98 : decode bb_Mo_errorBySigns 98 = .ok (.aload_n 0, 1) := by decide +kernel
theorem dd_Mo_errorBySigns_99 : decode bb_Mo_errorBySigns 99 = .ok (.iload_n 1, 1) := by decide +kernel
theorem dd_Mo_errorBySigns_100 : decode bb_Mo_errorBySigns 100 = .ok (.iload_n 2, 1) := by decide +kernel
theorem dd_Mo_errorBySigns_101 : decode bb_Mo_errorBySigns 101 = .ok (.iload_n 3, 1) := by decide +kernel
theorem dd_Mo_errorBySigns_102 : decode bb_Mo_errorBySigns 102 = .ok (.invokevirtual 129, 3) := by decide +kernel
theorem dd_Mo_errorBySigns_105 : decode bb_Mo_errorBySigns 105 = .ok (.invokestatic 140, 3) := by decide +kernel
theorem dd_Mo_errorBySigns_108 : decode bb_Mo_errorBySigns 108 = .ok (.ifCond .eq (9), 3) := by decide +kernel
theorem dd_Mo_errorBySigns_111 : decode bb_Mo_errorBySigns 111 = .ok (.iinc 3 (1), 3) := by decide +kernel
theorem dd_Mo_errorBySigns_114 : decode bb_Mo_errorBySigns 114 = .ok (.goto (-16), 3) := by decide +kernel
theorem dd_Mo_errorBySigns_117 : decode bb_Mo_errorBySigns 117 = .ok (.iload_n 3, 1) := by decide +kernel
theorem dd_Mo_errorBySigns_118 : decode bb_Mo_errorBySigns 118 = .ok (.iload 4, 2) := by decide +kernel
theorem dd_Mo_errorBySigns_120 : decode bb_Mo_errorBySigns 120 = .ok (.iconst 1, 1) := by decide +kernel
theorem dd_Mo_errorBySigns_121 : decode bb_Mo_errorBySigns 121 = .ok (.iadd, 1) := by decide +kernel
theorem dd_Mo_errorBySigns_122 : decode bb_Mo_errorBySigns 122 = .ok (.if_icmp .eq (26), 3) := by decide +kernel
theorem dd_Mo_errorBySigns_125 : decode bb_Mo_errorBySigns 125 = .ok (.iload_n 3, 1) := by decide +kernel
theorem dd_Mo_errorBySigns_126 : decode bb_Mo_errorBySigns 126 = .ok (.iload 4, 2) := by decide +kernel
theorem dd_Mo_errorBySigns_128 : decode bb_Mo_errorBySigns 128 = .ok (.iconst 2, 1) := by decide +kernel
theorem dd_Mo_errorBySigns_129 : decode bb_Mo_errorBySigns 129 = .ok (.iadd, 1) := by decide +kernel
theorem dd_Mo_errorBySigns_130 : decode bb_Mo_errorBySigns 130 = .ok (.if_icmp .ne (22), 3) := by decide +kernel
theorem dd_Mo_errorBySigns_133 : decode bb_Mo_errorBySigns 133 = .ok (.aload_n 0, 1) := by decide +kernel
theorem dd_Mo_errorBySigns_134 : decode bb_Mo_errorBySigns 134 = .ok (.iload_n 1, 1) := by decide +kernel
theorem dd_Mo_errorBySigns_135 : decode bb_Mo_errorBySigns 135 = .ok (.iload_n 2, 1) := by decide +kernel
theorem dd_Mo_errorBySigns_136 : decode bb_Mo_errorBySigns 136 = .ok (.iload 4, 2) := by decide +kernel
theorem dd_Mo_errorBySigns_138 : decode bb_Mo_errorBySigns 138 = .ok (.iconst 1, 1) := by decide +kernel
theorem dd_Mo_errorBySigns_139 : decode bb_Mo_errorBySigns 139 = .ok (.iadd, 1) := by decide +kernel
theorem dd_Mo_errorBySigns_140 : decode bb_Mo_errorBySigns 140 = .ok (.invokevirtual 129, 3) := by decide +kernel
theorem dd_Mo_errorBySigns_143 : decode bb_Mo_errorBySigns 143 = .ok (.bipush (46), 2) := by decide +kernel
theorem dd_Mo_errorBySigns_145 : decode bb_Mo_errorBySigns 145 = .ok (.if_icmp .ne (7), 3) := by decide +kernel
theorem dd_Mo_errorBySigns_148 : decode bb_Mo_errorBySigns 148 = .ok (.iconst 1, 1) := by decide +kernel
theorem dd_Mo_errorBySigns_149 : decode bb_Mo_errorBySigns 149 = .ok (.goto (4), 3) := by decide +kernel
theorem dd_Mo_errorBySigns_152 : decode bb_Mo_errorBySigns 152 = .ok (.iconst 0, 1) := by decide +kernel
theorem dd_Mo_errorBySigns_153 : decode bb_Mo_errorBySigns 153 = .ok (.istore 5, 2) := by decide +kernel
theorem dd_Mo_errorBySigns_155 : decode bb_Mo_errorBySigns 155 = .ok (.iload_n 3, 1) := by decide +kernel
theorem dd_Mo_errorBySigns_156 : decode bb_Mo_errorBySigns 156 = .ok (.iload 4, 2) := by decide +kernel
theorem dd_Mo_errorBySigns_158 : decode bb_Mo_errorBySigns 158 = .ok (.if_icmp .eq (21), 3) := by decide +kernel
theorem dd_Mo_errorBySigns_161 : decode bb_Mo_errorBySigns 161 = .ok (.iload 5, 2) := by decide +kernel
theorem dd_Mo_errorBySigns_163 : decode bb_Mo_errorBySigns 163 = .ok (.ifCond .eq (19), 3) := by decide +kernel
theorem dd_Mo_errorBySigns_166 : decode bb_Mo_errorBySigns 166 = .ok (.aload_n 0, 1) := by decide +kernel
theorem dd_Mo_errorBySigns_167 : decode bb_Mo_errorBySigns 167 = .ok (.iload_n 1, 1) := by decide +kernel
theorem dd_Mo_errorBySigns_168 : decode bb_Mo_errorBySigns 168 = .ok (.iload_n 2, 1) := by decide +kernel
theorem dd_Mo_errorBySigns_169 : decode bb_Mo_errorBySigns 169 = .ok (.iload 4, 2) := by decide +kernel
theorem dd_Mo_errorBySigns_171 : decode bb_Mo_errorBySigns 171 = .ok (.invokevirtual 129, 3) := by decide +kernel
theorem dd_Mo_errorBySigns_174 : decode bb_Mo_errorBySigns 174 = .ok (.bipush (46), 2) := by decide +kernel
theorem dd_Mo_errorBySigns_176 : decode bb_Mo_errorBySigns 176 = .ok (.if_icmp .ne (6), 3) := by decide +kernel
theorem dd_Mo_errorBySigns_179 : decode bb_Mo_errorBySigns 179 = .ok (.iload 4, 2) := by decide +kernel
theorem dd_Mo_errorBySigns_181 : decode bb_Mo_errorBySigns 181 = .ok (.ireturn, 1) := by decide +kernel
theorem dd_Mo_errorBySigns_182 : decode bb_Mo_errorBySigns 182 = .ok (.goto (-111), 3) := by decide +kernel
theorem dd_Mo_errorBySigns_185 : decode bb_Mo_errorBySigns 185 = .ok (.iload_n 2, 1) := by decide +kernel
theorem dd_Mo_errorBySigns_186 : decode bb_Mo_errorBySigns 186 = .ok (.iconst 1, 1) := by decide +kernel
theorem dd_Mo_errorBySigns_187 : decode bb_Mo_errorBySigns 187 = .ok (.iadd, 1) := by decide +kernel
theorem dd_Mo_errorBySigns_188 : decode bb_Mo_errorBySigns 188 = .ok (.ireturn, 1) := by decide +kernel
theorem dd_Mo_sign_0 : decode bb_Mo_sign 0 = .ok (.iload_n 3, 1) := by decide +kernel
theorem dd_Mo_sign_1 : decode bb_Mo_sign 1 = .ok (.iload_n 2, 1) := by decide +kernel
theorem dd_Mo_sign_2 : decode bb_Mo_sign 2 = .ok (.if_icmp .ge (14), 3) := by decide +kernel
theorem dd_Mo_sign_5 : decode bb_Mo_sign 5 = .ok (.aload_n 0, 1) := by decide +kernel
theorem dd_Mo_sign_6 : decode bb_Mo_sign 6 = .ok (.getfield 7, 3) := by decide +kernel
theorem dd_Mo_sign_9 : decode bb_Mo_sign 9 = .ok (.iload_n 1, 1) := by decide +kernel
theorem dd_Mo_sign_10 : decode bb_Mo_sign 10 = .ok (.iload_n 3, 1) := by decide +kernel
theorem dd_Mo_sign_11 : decode bb_Mo_sign 11 = .ok (.iadd, 1) := by decide +kernel
theorem dd_Mo_sign_12 : decode bb_Mo_sign 12 = .ok (.iaload, 1) := by decide +kernel
theorem dd_Mo_sign_13 : decode bb_Mo_sign 13 = .ok (.goto (4), 3) := by decide +kernel
theorem dd_Mo_sign_16 : decode bb_Mo_sign 16 = .ok (.iconst (-1), 1) := by decide +kernel
theorem dd_Mo_sign_17 : decode bb_Mo_sign 17 = .ok (.ireturn, 1) := by decide +kernel
theorem dd_Mo_scheme_0 : decode bb_Mo_scheme 0 = .ok (.iload_n 0, 1) := by decide +kernel
theorem dd_Mo_scheme_1 : decode bb_Mo_scheme 1 = .ok (.iconst 3, 1) := by decide +kernel
theorem dd_Mo_scheme_2 : decode bb_Mo_scheme 2 = .ok (.if_icmp .ge (27), 3) := by decide +kernel
theorem dd_Mo_scheme_5 : decode bb_Mo_scheme 5 = .ok (.iload_n 0, 1) := by decide +kernel
theorem dd_Mo_scheme_6 : decode bb_Mo_scheme 6 = .ok (.ifCond .ne (8), 3) := by decide +kernel
theorem dd_Mo_scheme_9 : decode bb_Mo_scheme 9 = .ok (.bipush (115), 2) := by decide +kernel
theorem dd_Mo_scheme_11 : decode bb_Mo_scheme 11 = .ok (.goto (51), 3) := by decide +kernel
theorem dd_Mo_scheme_14 : decode bb_Mo_scheme 14 = .ok (.iload_n 0, 1) := by decide +kernel
theorem dd_Mo_scheme_15 : decode bb_Mo_scheme 15 = .ok (.iconst 1, 1) := by decide +kernel
theorem dd_Mo_scheme_16 : decode bb_Mo_scheme 16 = .ok (.if_icmp .ne (8), 3) := by decide +kernel
theorem dd_Mo_scheme_19 : decode bb_Mo_scheme 19 = .ok (.bipush (112), 2) := by decide +kernel
theorem dd_Mo_scheme_21 : decode bb_Mo_scheme 21 = .ok (.goto (41), 3) := by decide +kernel
theorem dd_Mo_scheme_24 : decode bb_Mo_scheme 24 = .ok (.bipush (105), 2) := by decide +kernel
theorem dd_Mo_scheme_26 : decode bb_Mo_scheme 26 = .ok (.goto (36), 3) := by decide +kernel
theorem dd_Mo_scheme_29 : decode bb_Mo_scheme 29 = .ok (.iload_n 0, 1) := by decide +kernel
theorem dd_Mo_scheme_30 : decode bb_Mo_scheme 30 = .ok (.iconst 5, 1) := by decide +kernel
theorem dd_Mo_scheme_31 : decode bb_Mo_scheme 31 = .ok (.if_icmp .ge (8), 3) := by decide +kernel
theorem dd_Mo_scheme_34 : decode bb_Mo_scheme 34 = .ok (.bipush (102), 2) := by decide +kernel
theorem dd_Mo_scheme_36 : decode bb_Mo_scheme 36 = .ok (.goto (26), 3) := by decide +kernel
theorem dd_Mo_scheme_39 : decode bb_Mo_scheme 39 = .ok (.iload_n 0, 1) := by decide +kernel
theorem dd_Mo_scheme_40 : decode bb_Mo_scheme 40 = .ok (.iconst 5, 1) := by decide +kernel
theorem dd_Mo_scheme_41 : decode bb_Mo_scheme 41 = .ok (.if_icmp .ne (8), 3) := by decide +kernel
theorem dd_Mo_scheme_44 : decode bb_Mo_scheme 44 = .ok (.bipush (101), 2) := by decide +kernel
theorem dd_Mo_scheme_46 : decode bb_Mo_scheme 46 = .ok (.goto (16), 3) := by decide +kernel
theorem dd_Mo_scheme_49 : decode bb_Mo_scheme 49 = .ok (.iload_n 0, 1) := by decide +kernel
theorem dd_Mo_scheme_50 : decode bb_Mo_scheme 50 = .ok (.bipush (6), 2) := by decide +kernel
theorem dd_Mo_scheme_52 : decode bb_Mo_scheme 52 = .ok (.if_icmp .ne (8), 3) := by decide +kernel
theorem dd_Mo_scheme_55 : decode bb_Mo_scheme 55 = .ok (.bipush (58), 2) := by decide +kernel
theorem dd_Mo_scheme_57 : decode bb_Mo_scheme 57 = .ok (.goto (5), 3) := by decide +kernel
theorem dd_Mo_scheme_60 : decode bb_Mo_scheme 60 = .ok (.bipush (47), 2) := by decide +kernel
theorem dd_Mo_scheme_62 : decode bb_Mo_scheme 62 = .ok (.ireturn, 1) := by decide +kernel
theorem dd_Mo_ofDomain_0 : decode bb_Mo_ofDomain 0 = .ok (.iload_n 0, 1) := by decide +kernel
theorem dd_Mo_ofDomain_1 : decode bb_Mo_ofDomain 1 = .ok (.bipush (97), 2) := by decide +kernel
theorem dd_Mo_ofDomain_3 : decode bb_Mo_ofDomain 3 = .ok (.if_icmp .lt (9), 3) := by decide +kernel
theorem dd_Mo_ofDomain_6 : decode bb_Mo_ofDomain 6 = .ok (.iload_n 0, 1) := by decide +kernel
theorem dd_Mo_ofDomain_7 : decode bb_Mo_ofDomain 7 = .ok (.bipush (122), 2) := by decide +kernel
theorem dd_Mo_ofDomain_9 : decode bb_Mo_ofDomain 9 = .ok (.if_icmp .le (33), 3) := by decide +kernel
theorem dd_Mo_ofDomain_12 : decode bb_Mo_ofDomain 12 = .ok (.iload_n 0, 1) := by decide +kernel
theorem dd_Mo_ofDomain_13 : decode bb_Mo_ofDomain 13 = .ok (.bipush (48), 2) := by decide +kernel
theorem dd_Mo_ofDomain_15 : decode bb_Mo_ofDomain 15 = .ok (.if_icmp .lt (9), 3) := by decide +kernel
theorem dd_Mo_ofDomain_18 : decode bb_Mo_ofDomain 18 = .ok (.iload_n 0, 1) := by decide +kernel
theorem dd_Mo_ofDomain_19 : decode bb_Mo_ofDomain 19 = .ok (.bipush (57), 2) := by decide +kernel
theorem dd_Mo_ofDomain_21 : decode bb_Mo_ofDomain 21 = .ok (.if_icmp .le (21), 3) := by decide +kernel
theorem dd_Mo_ofDomain_24 : decode bb_Mo_ofDomain 24 = .ok (.iload_n 0, 1) := by decide +kernel
theorem dd_Mo_ofDomain_25 : decode bb_Mo_ofDomain 25 = .ok (.bipush (46), 2) := by decide +kernel
theorem dd_Mo_ofDomain_27 : decode bb_Mo_ofDomain 27 = .ok (.if_icmp .eq (15), 3) := by decide +kernel
theorem dd_Mo_ofDomain_30 : decode bb_Mo_ofDomain 30 = .ok (.iload_n 0, 1) := by decide +kernel
theorem dd_Mo_ofDomain_31 : decode bb_Mo_ofDomain 31 = .ok (.bipush (45), 2) := by decide +kernel
theorem dd_Mo_ofDomain_33 : decode bb_Mo_ofDomain 33 = .ok (.if_icmp .eq (9), 3) := by decide +kernel
theorem dd_Mo_ofDomain_36 : decode bb_Mo_ofDomain 36 = .ok (.iload_n 0, 1) := by decide +kernel
theorem dd_Mo_ofDomain_37 : decode bb_Mo_ofDomain 37 = .ok (.bipush (95), 2) := by decide +kernel
theorem dd_Mo_ofDomain_39 : decode bb_Mo_ofDomain 39 = .ok (.if_icmp .ne (7), 3) := by decide +kernel
theorem dd_Mo_ofDomain_42 : decode bb_Mo_ofDomain 42 = .ok (.iconst 1, 1) := by decide +kernel
theorem dd_Mo_ofDomain_43 : decode bb_Mo_ofDomain 43 = .ok (.goto (4), 3) := by decide +kernel
theorem dd_Mo_ofDomain_46 : decode bb_Mo_ofDomain 46 = .ok (.iconst 0, 1) := by decide +kernel
theorem dd_Mo_ofDomain_47 : decode bb_Mo_ofDomain 47 = .ok (.ireturn, 1) := by decide +kernel
theorem dd_Mo_ofSegment_0 : decode bb_Mo_ofSegment 0 = .ok (.iload_n 0, 1) := by decide +kernel
theorem dd_Mo_ofSegment_1 : decode bb_Mo_ofSegment 1 = .ok (.invokestatic 125, 3) := by decide +kernel
theorem dd_Mo_ofSegment_4 : decode bb_Mo_ofSegment 4 = .ok (.ifCond .ne (15), 3) := by decide +kernel
theorem dd_Mo_ofSegment_7 : decode bb_Mo_ofSegment 7 = .ok (.iload_n 0, 1) := by decide +kernel
theorem dd_Mo_ofSegment_8 : decode bb_Mo_ofSegment 8 = .ok (.bipush (65), 2) := by decide +kernel
theorem dd_Mo_ofSegment_10 : decode bb_Mo_ofSegment 10 = .ok (.if_icmp .lt (13), 3) := by decide +kernel
theorem dd_Mo_ofSegment_13 : decode bb_Mo_ofSegment 13 = .ok (.iload_n 0, 1) := by decide +kernel
theorem dd_Mo_ofSegment_14 : decode bb_Mo_ofSegment 14 = .ok (.bipush (90), 2) := by decide +kernel
theorem dd_Mo_ofSegment_16 : decode bb_Mo_ofSegment 16 = .ok (.if_icmp .gt (7), 3) := by decide +kernel
theorem dd_Mo_ofSegment_19 : decode bb_Mo_ofSegment 19 = .ok (.iconst 1, 1) := by decide +kernel
theorem dd_Mo_ofSegment_20 : decode bb_Mo_ofSegment 20 = .ok (.goto (4), 3) := by decide +kernel
theorem dd_Mo_ofSegment_23 : decode bb_Mo_ofSegment 23 = .ok (.iconst 0, 1) := by decide +kernel
theorem dd_Mo_ofSegment_24 : decode bb_Mo_ofSegment 24 = .ok (.ireturn, 1) := by decide +kernel
theorem dd_Mo_isId_0 : decode bb_Mo_isId 0 = .ok (.aload_n 0, 1) := by decide +kernel
theorem dd_Mo_isId_1 : decode bb_Mo_isId 1 = .ok (.getfield 16, 3) := by decide +kernel
theorem dd_Mo_isId_4 : decode bb_Mo_isId 4 = .ok (.iload_n 1, 1) := by decide +kernel
theorem dd_Mo_isId_5 : decode bb_Mo_isId 5 = .ok (.iaload, 1) := by decide +kernel
theorem dd_Mo_isId_6 : decode bb_Mo_isId 6 = .ok (.iload_n 2, 1) := by decide +kernel
theorem dd_Mo_isId_7 : decode bb_Mo_isId 7 = .ok (.if_icmp .ne (7), 3) := by decide +kernel
theorem dd_Mo_isId_10 : decode bb_Mo_isId 10 = .ok (.iconst 1, 1) := by decide +kernel
theorem dd_Mo_isId_11 : decode bb_Mo_isId 11 = .ok (.goto (4), 3) := by decide +kernel
theorem dd_Mo_isId_14 : decode bb_Mo_isId 14 = .ok (.iconst 0, 1) := by decide +kernel
theorem dd_Mo_isId_15 : decode bb_Mo_isId 15 = .ok (.istore_n 3, 1) := by decide +kernel
theorem dd_Mo_isId_16 : decode bb_Mo_isId 16 = .ok (.iconst 0, 1) := by decide +kernel
theorem dd_Mo_isId_17 : decode bb_Mo_isId 17 = .ok (.istore 4, 2) := by decide +kernel
theorem dd_Mo_isId_19 : decode bb_Mo_isId 19 = .ok (.iload 4, 2) := by decide +kernel
theorem dd_Mo_isId_21 : decode bb_Mo_isId 21 = .ok (.iload_n 2, 1) := by decide +kernel
theorem dd_Mo_isId_22 : decode bb_Mo_isId 22 = .ok (.if_icmp .ge (41), 3) := by decide +kernel
theorem dd_Mo_isId_25 : decode bb_Mo_isId 25 = .ok (.iload_n 3, 1) := by decide +kernel
theorem dd_Mo_isId_26 : decode bb_Mo_isId 26 = .ok (.ifCond .eq (37), 3) := by decide +kernel
theorem dd_Mo_isId_29 : decode bb_Mo_isId 29 = .ok (.aload_n 0, 1) := by decide +kernel
theorem dd_Mo_isId_30 : decode bb_Mo_isId 30 = .ok (.getfield 13, 3) := by decide +kernel
theorem dd_Mo_isId_33 : decode bb_Mo_isId 33 = .ok (.bipush (40), 2) := by decide +kernel
theorem dd_Mo_isId_35 : decode bb_Mo_isId 35 = .ok (.iload_n 1, 1) := by decide +kernel
theorem dd_Mo_isId_36 : decode bb_Mo_isId 36 = .ok (.imul, 1) := by decide +kernel
theorem dd_Mo_isId_37 : decode bb_Mo_isId 37 = .ok (.iload 4, 2) := by decide +kernel
theorem dd_Mo_isId_39 : decode bb_Mo_isId 39 = .ok (.iadd, 1) := by decide +kernel
theorem dd_Mo_isId_40 : decode bb_Mo_isId 40 = .ok (.iaload, 1) := by decide +kernel
theorem dd_Mo_isId_41 : decode bb_Mo_isId 41 = .ok (.aload_n 0, 1) := by decide +kernel
theorem dd_Mo_isId_42 : decode bb_Mo_isId 42 = .ok (.getfield 7, 3) := by decide +kernel
theorem dd_Mo_isId_45 : decode bb_Mo_isId 45 = .ok (.iload 4, 2) := by decide +kernel
theorem dd_Mo_isId_47 : decode bb_Mo_isId 47 = .ok (.iaload, 1) := by decide +kernel
theorem dd_Mo_isId_48 : decode bb_Mo_isId 48 = .ok (.if_icmp .ne (7), 3) := by decide +kernel
theorem dd_Mo_isId_51 : decode bb_Mo_isId 51 = .ok (.iconst 1, 1) := by decide +kernel
theorem dd_Mo_isId_52 : decode bb_Mo_isId 52 = .ok (.goto (4), 3) := by decide +kernel
theorem dd_Mo_isId_55 : decode bb_Mo_isId 55 = .ok (.iconst 0, 1) := by decide +kernel
theorem dd_Mo_isId_56 : decode bb_Mo_isId 56 = .ok (.istore_n 3, 1) := by decide +kernel
theorem dd_Mo_isId_57 : decode bb_Mo_isId 57 = .ok (.iinc 4 (1), 3) := by decide +kernel
theorem dd_Mo_isId_60 : decode bb_Mo_isId 60 = .ok (.goto (-41), 3) := by decide +kernel
theorem dd_Mo_isId_63 : decode bb_Mo_isId 63 = .ok (.iload_n 3, 1) := by decide +kernel
theorem dd_Mo_isId_64 : decode bb_Mo_isId 64 = .ok (.ireturn, 1) := by decide +kernel
theorem dd_Mo_entry_0 : decode bb_Mo_entry 0 = .ok (.iload_n 1, 1) := by decide +kernel
theorem dd_Mo_entry_1 : decode bb_Mo_entry 1 = .ok (.iconst 0, 1) := by decide +kernel
theorem dd_Mo_entry_2 : decode bb_Mo_entry 2 = .ok (.aload_n 0, 1) := by decide +kernel
theorem dd_Mo_entry_3 : decode bb_Mo_entry 3 = .ok (.getfield 150, 3) := by decide +kernel
theorem dd_Mo_entry_6 : decode bb_Mo_entry 6 = .ok (.iconst 1, 1) := by decide +kernel
theorem dd_Mo_entry_7 : decode bb_Mo_entry 7 = .ok (.isub, 1) := by decide +kernel
theorem dd_Mo_entry_8 : decode bb_Mo_entry 8 = .ok (.invokestatic 118, 3) := by decide +kernel
theorem dd_Mo_entry_11 : decode bb_Mo_entry 11 = .ok (.ifCond .ne (17), 3) := by decide +kernel
theorem dd_Mo_entry_14 : decode bb_Mo_entry 14 = .ok (.iload_n 2, 1) := by decide +kernel
theorem dd_Mo_entry_15 : decode bb_Mo_entry 15 = .ok (.iconst 0, 1) := by decide +kernel
theorem dd_Mo_entry_16 : decode bb_Mo_entry 16 = .ok (.aload_n 0, 1) := by decide +kernel
theorem dd_Mo_entry_17 : decode bb_Mo_entry 17 = .ok (.getfield 150, 3) := by decide +kernel
theorem dd_Mo_entry_20 : decode bb_Mo_entry 20 = .ok (.iconst 1, 1) := by decide +kernel
theorem dd_Mo_entry_21 : decode bb_Mo_entry 21 = .ok (.isub, 1) := by decide +kernel
theorem dd_Mo_entry_22 : decode bb_Mo_entry 22 = .ok (.invokestatic 118, 3) := by decide +kernel
theorem dd_Mo_entry_25 : decode bb_Mo_entry 25 = .ok (.ifCond .eq (7), 3) := by decide +kernel
theorem dd_Mo_entry_28 : decode bb_Mo_entry 28 = .ok (.sipush (-1001), 3) := by decide +kernel
theorem dd_Mo_entry_31 : decode bb_Mo_entry 31 = .ok (.ireturn, 1) := by decide +kernel
theorem dd_Mo_entry_32 : decode bb_Mo_entry 32 = .ok (.aload_n 0, 1) := by decide +kernel
theorem dd_Mo_entry_33 : decode bb_Mo_entry 33 = .ok (.iload_n 1, 1) := by decide +kernel
theorem dd_Mo_entry_34 : decode bb_Mo_entry 34 = .ok (.invokevirtual 163, 3) := by decide +kernel
theorem dd_Mo_entry_37 : decode bb_Mo_entry 37 = .ok (.ifCond .eq (43), 3) := by decide +kernel
theorem dd_Mo_entry_40 : decode bb_Mo_entry 40 = .ok (.aload_n 0, 1) := by decide +kernel
theorem dd_Mo_entry_41 : decode bb_Mo_entry 41 = .ok (.iload_n 2, 1) := by decide +kernel
theorem dd_Mo_entry_42 : decode bb_Mo_entry 42 = .ok (.invokevirtual 160, 3) := by decide +kernel
theorem dd_Mo_entry_45 : decode bb_Mo_entry 45 = .ok (.ifCond .eq (35), 3) := by decide +kernel
theorem dd_Mo_entry_48 : decode bb_Mo_entry 48 = .ok (.iload_n 3, 1) := by decide +kernel
theorem dd_Mo_entry_49 : decode bb_Mo_entry 49 = .ok (.iconst 1, 1) := by decide +kernel
theorem dd_Mo_entry_50 : decode bb_Mo_entry 50 = .ok (.ldc 166, 2) := by decide +kernel
theorem dd_Mo_entry_52 : decode bb_Mo_entry 52 = .ok (.invokestatic 118, 3) := by decide +kernel
theorem dd_Mo_entry_55 : decode bb_Mo_entry 55 = .ok (.ifCond .ne (25), 3) := by decide +kernel
theorem dd_Mo_entry_58 : decode bb_Mo_entry 58 = .ok (.iload 4, 2) := by decide +kernel
theorem dd_Mo_entry_60 : decode bb_Mo_entry 60 = .ok (.iconst 1, 1) := by decide +kernel
theorem dd_Mo_entry_61 : decode bb_Mo_entry 61 = .ok (.bipush (64), 2) := by decide +kernel
theorem dd_Mo_entry_63 : decode bb_Mo_entry 63 = .ok (.invokestatic 118, 3) := by decide +kernel
theorem dd_Mo_entry_66 : decode bb_Mo_entry 66 = .ok (.ifCond .ne (14), 3) := by decide +kernel
theorem dd_Mo_entry_69 : decode bb_Mo_entry 69 = .ok (.iload 5, 2) := by decide +kernel
theorem dd_Mo_entry_71 : decode bb_Mo_entry 71 = .ok (.iconst 0, 1) := by decide +kernel
theorem dd_Mo_entry_72 : decode bb_Mo_entry 72 = .ok (.bipush (15), 2) := by decide +kernel
theorem dd_Mo_entry_74 : decode bb_Mo_entry 74 = .ok (.invokestatic 118, 3) := by decide +kernel
theorem dd_Mo_entry_77 : decode bb_Mo_entry 77 = .ok (.ifCond .eq (7), 3) := by decide +kernel
theorem dd_Mo_entry_80 : decode bb_Mo_entry 80 = .ok (.sipush (-1002), 3) := by decide +kernel
theorem dd_Mo_entry_83 : decode bb_Mo_entry 83 = .ok (.ireturn, 1) := by decide +kernel
theorem dd_Mo_entry_84 : decode bb_Mo_entry 84 = .ok (.iconst 0, 1) := by decide +kernel
theorem dd_Mo_entry_85 : decode bb_Mo_entry 85 = .ok (.istore 6, 2) := by decide +kernel
theorem dd_Mo_entry_87 : decode bb_Mo_entry 87 = .ok (.iconst 0, 1) := by decide +kernel
theorem dd_Mo_entry_88 : decode bb_Mo_entry 88 = .ok (.istore 7, 2) := by decide +kernel
theorem dd_Mo_entry_90 : decode bb_Mo_entry 90 = .ok (.iload 7, 2) := by decide +kernel
theorem dd_Mo_entry_92 : decode bb_Mo_entry 92 = .ok (.aload_n 0, 1) := by decide +kernel
theorem dd_Mo_entry_93 : decode bb_Mo_entry 93 = .ok (.getfield 167, 3) := by decide +kernel
theorem dd_Mo_entry_96 : decode bb_Mo_entry 96 = .ok (.if_icmp .ge (30), 3) := by decide +kernel
theorem dd_Mo_entry_99 : decode bb_Mo_entry 99 = .ok (.aload_n 0, 1) := by decide +kernel
theorem dd_Mo_entry_100 : decode bb_Mo_entry 100 = .ok (.getfield 29, 3) := by decide +kernel
theorem dd_Mo_entry_103 : decode bb_Mo_entry 103 = .ok (.iload 7, 2) := by decide +kernel
theorem dd_Mo_entry_105 : decode bb_Mo_entry 105 = .ok (.baload, 1) := by decide +kernel
theorem dd_Mo_entry_106 : decode bb_Mo_entry 106 = .ok (.ifCond .eq (10), 3) := by decide +kernel
theorem dd_Mo_entry_109 : decode bb_Mo_entry 109 = .ok (.iload 6, 2) := by decide +kernel
theorem dd_Mo_entry_111 : decode bb_Mo_entry 111 = .ok (.iconst 1, 1) := by decide +kernel
theorem dd_Mo_entry_112 : decode bb_Mo_entry 112 = .ok (.iadd, 1) := by decide +kernel
theorem dd_Mo_entry_113 : decode bb_Mo_entry 113 = .ok (.goto (5), 3) := by decide +kernel
theorem dd_Mo_entry_116 : decode bb_Mo_entry 116 = .ok (.iload 6, 2) := by decide +kernel
theorem dd_Mo_entry_118 : decode bb_Mo_entry 118 = .ok (.istore 6, 2) := by decide +kernel
theorem dd_Mo_entry_120 : decode bb_Mo_entry 120 = .ok (.iinc 7 (1), 3) := by decide +kernel
theorem dd_Mo_entry_123 : decode bb_Mo_entry 123 = .ok (.goto (-33), 3) := by decide +kernel
theorem dd_Mo_entry_126 : decode bb_Mo_entry 126 = .ok (.aload_n 0, 1) := by decide +kernel
theorem dd_Mo_entry_127 : decode bb_Mo_entry 127 = .ok (.getfield 167, 3) := by decide +kernel
theorem dd_Mo_entry_130 : decode bb_Mo_entry 130 = .ok (.bipush (60), 2) := by decide +kernel
theorem dd_Mo_entry_132 : decode bb_Mo_entry 132 = .ok (.if_icmp .eq (10), 3) := by decide +kernel
theorem dd_Mo_entry_135 : decode bb_Mo_entry 135 = .ok (.iload 6, 2) := by decide +kernel
theorem dd_Mo_entry_137 : decode bb_Mo_entry 137 = .ok (.bipush (12), 2) := by decide +kernel
theorem dd_Mo_entry_139 : decode bb_Mo_entry 139 = .ok (.if_icmp .ne (7), 3) := by decide +kernel
theorem dd_Mo_entry_142 : decode bb_Mo_entry 142 = .ok (.sipush (-1003), 3) := by decide +kernel
theorem dd_Mo_entry_145 : decode bb_Mo_entry 145 = .ok (.ireturn, 1) := by decide +kernel
theorem dd_Mo_entry_146 : decode bb_Mo_entry 146 = .ok (.aload_n 0, 1) := by decide +kernel
theorem dd_Mo_entry_147 : decode bb_Mo_entry 147 = .ok (.getfield 29, 3) := by decide +kernel
theorem dd_Mo_entry_150 : decode bb_Mo_entry 150 = .ok (.aload_n 0, 1) := by decide +kernel
theorem dd_Mo_entry_151 : decode bb_Mo_entry 151 = .ok (.getfield 167, 3) := by decide +kernel
theorem dd_Mo_entry_154 : decode bb_Mo_entry 154 = .ok (.iconst 1, 1) := by decide +kernel
theorem dd_Mo_entry_155 : decode bb_Mo_entry 155 = .ok (.bastore, 1) := by decide +kernel
theorem dd_Mo_entry_156 : decode bb_Mo_entry 156 = .ok (.aload_n 0, 1) := by decide +kernel
theorem dd_Mo_entry_157 : decode bb_Mo_entry 157 = .ok (.getfield 33, 3) := by decide +kernel
theorem dd_Mo_entry_160 : decode bb_Mo_entry 160 = .ok (.aload_n 0, 1) := by decide +kernel
theorem dd_Mo_entry_161 : decode bb_Mo_entry 161 = .ok (.getfield 167, 3) := by decide +kernel
theorem dd_Mo_entry_164 : decode bb_Mo_entry 164 = .ok (.iload_n 1, 1) := by decide +kernel
theorem dd_Mo_entry_165 : decode bb_Mo_entry 165 = .ok (.iastore, 1) := by decide +kernel
theorem dd_Mo_entry_166 : decode bb_Mo_entry 166 = .ok (.aload_n 0, 1) := by decide +kernel
theorem dd_Mo_entry_167 : decode bb_Mo_entry 167 = .ok (.getfield 36, 3) := by decide +kernel
theorem dd_Mo_entry_170 : decode bb_Mo_entry 170 = .ok (.aload_n 0, 1) := by decide +kernel
theorem dd_Mo_entry_171 : decode bb_Mo_entry 171 = .ok (.getfield 167, 3) := by decide +kernel
theorem dd_Mo_entry_174 : decode bb_Mo_entry 174 = .ok (.iload_n 2, 1) := by decide +kernel
theorem dd_Mo_entry_175 : decode bb_Mo_entry 175 = .ok (.iastore, 1) := by decide +kernel
theorem dd_Mo_entry_176 : decode bb_Mo_entry 176 = .ok (.aload_n 0, 1) := by decide +kernel
theorem dd_Mo_entry_177 : decode bb_Mo_entry 177 = .ok (.getfield 39, 3) := by decide +kernel
theorem dd_Mo_entry_180 : decode bb_Mo_entry 180 = .ok (.aload_n 0, 1) := by decide +kernel
theorem dd_Mo_entry_181 : decode bb_Mo_entry 181 = .ok (.getfield 167, 3) := by decide +kernel
theorem dd_Mo_entry_184 : decode bb_Mo_entry 184 = .ok (.iload_n 3, 1) := by decide +kernel
theorem dd_Mo_entry_185 : decode bb_Mo_entry 185 = .ok (.iastore, 1) := by decide +kernel
theorem dd_Mo_entry_186 : decode bb_Mo_entry 186 = .ok (.aload_n 0, 1) := by decide +kernel
theorem dd_Mo_entry_187 : decode bb_Mo_entry 187 = .ok (.getfield 42, 3) := by decide +kernel
theorem dd_Mo_entry_190 : decode bb_Mo_entry 190 = .ok (.aload_n 0, 1) := by decide +kernel
theorem dd_Mo_entry_191 : decode bb_Mo_entry 191 = .ok (.getfield 167, 3) := by decide +kernel
theorem dd_Mo_entry_194 : decode bb_Mo_entry 194 = .ok (.iload 4, 2) := by decide +kernel
theorem dd_Mo_entry_196 : decode bb_Mo_entry 196 = .ok (.iastore, 1) := by decide +kernel
theorem dd_Mo_entry_197 : decode bb_Mo_entry 197 = .ok (.aload_n 0, 1) := by decide +kernel
theorem dd_Mo_entry_198 : decode bb_Mo_entry 198 = .ok (.getfield 45, 3) := by decide +kernel
theorem dd_Mo_entry_201 : decode bb_Mo_entry 201 = .ok (.aload_n 0, 1) := by decide +kernel
theorem dd_Mo_entry_202 : decode bb_Mo_entry 202 = .ok (.getfield 167, 3) := by decide +kernel
theorem dd_Mo_entry_205 : decode bb_Mo_entry 205 = .ok (.iload 5, 2) := by decide +kernel
theorem dd_Mo_entry_207 : decode bb_Mo_entry 207 = .ok (.iastore, 1) := by decide +kernel
theorem dd_Mo_entry_208 : decode bb_Mo_entry 208 = .ok (.aload_n 0, 1) := by decide +kernel
theorem dd_Mo_entry_209 : decode bb_Mo_entry 209 = .ok (.dup, 1) := by decide +kernel
theorem dd_Mo_entry_210 : decode bb_Mo_entry 210 = .ok (.getfield 167, 3) := by decide +kernel
theorem dd_Mo_entry_213 : decode bb_Mo_entry 213 = .ok (.iconst 1, 1) := by decide +kernel
theorem dd_Mo_entry_214 : decode bb_Mo_entry 214 = .ok (.iadd, 1) := by decide +kernel
theorem dd_Mo_entry_215 : decode bb_Mo_entry 215 = .ok (.putfield 167, 3) := by decide +kernel
theorem dd_Mo_entry_218 : decode bb_Mo_entry 218 = .ok (.aload_n 0, 1) := by decide +kernel
theorem dd_Mo_entry_219 : decode bb_Mo_entry 219 = .ok (.getfield 167, 3) := by decide +kernel
theorem dd_Mo_entry_222 : decode bb_Mo_entry 222 = .ok (.iconst 1, 1) := by decide +kernel
theorem dd_Mo_entry_223 : decode bb_Mo_entry 223 = .ok (.isub, 1) := by decide +kernel
theorem dd_Mo_entry_224 : decode bb_Mo_entry 224 = .ok (.ireturn, 1) := by decide +kernel
theorem dd_Mo_good_0 : decode bb_Mo_good 0 = .ok (.iload_n 1, 1) := by decide +kernel
theorem dd_Mo_good_1 : decode bb_Mo_good 1 = .ok (.ifCond .le (30), 3) := by decide +kernel
theorem dd_Mo_good_4 : decode bb_Mo_good 4 = .ok (.aload_n 0, 1) := by decide +kernel
theorem dd_Mo_good_5 : decode bb_Mo_good 5 = .ok (.getfield 16, 3) := by decide +kernel
theorem dd_Mo_good_8 : decode bb_Mo_good 8 = .ok (.iload_n 1, 1) := by decide +kernel
theorem dd_Mo_good_9 : decode bb_Mo_good 9 = .ok (.iaload, 1) := by decide +kernel
theorem dd_Mo_good_10 : decode bb_Mo_good 10 = .ok (.aload_n 0, 1) := by decide +kernel
theorem dd_Mo_good_11 : decode bb_Mo_good 11 = .ok (.getfield 19, 3) := by decide +kernel
theorem dd_Mo_good_14 : decode bb_Mo_good 14 = .ok (.iload_n 1, 1) := by decide +kernel
theorem dd_Mo_good_15 : decode bb_Mo_good 15 = .ok (.iaload, 1) := by decide +kernel
theorem dd_Mo_good_16 : decode bb_Mo_good 16 = .ok (.if_icmp .le (15), 3) := by decide +kernel
theorem dd_Mo_good_19 : decode bb_Mo_good 19 = .ok (.aload_n 0, 1) := by decide +kernel
theorem dd_Mo_good_20 : decode bb_Mo_good 20 = .ok (.iload_n 1, 1) := by decide +kernel
theorem dd_Mo_good_21 : decode bb_Mo_good 21 = .ok (.invokevirtual 160, 3) := by decide +kernel
theorem dd_Mo_good_24 : decode bb_Mo_good 24 = .ok (.ifCond .eq (7), 3) := by decide +kernel
theorem dd_Mo_good_27 : decode bb_Mo_good 27 = .ok (.iconst 1, 1) := by decide +kernel
theorem dd_Mo_good_28 : decode bb_Mo_good 28 = .ok (.goto (4), 3) := by decide +kernel
theorem dd_Mo_good_31 : decode bb_Mo_good 31 = .ok (.iconst 0, 1) := by decide +kernel
theorem dd_Mo_good_32 : decode bb_Mo_good 32 = .ok (.ireturn, 1) := by decide +kernel
theorem dd_Mo_ours_0 : decode bb_Mo_ours 0 = .ok (.aload_n 0, 1) := by decide +kernel
theorem dd_Mo_ours_1 : decode bb_Mo_ours 1 = .ok (.getfield 19, 3) := by decide +kernel
theorem dd_Mo_ours_4 : decode bb_Mo_ours 4 = .ok (.iload_n 1, 1) := by decide +kernel
theorem dd_Mo_ours_5 : decode bb_Mo_ours 5 = .ok (.iaload, 1) := by decide +kernel
theorem dd_Mo_ours_6 : decode bb_Mo_ours 6 = .ok (.aload_n 0, 1) := by decide +kernel
theorem dd_Mo_ours_7 : decode bb_Mo_ours 7 = .ok (.getfield 19, 3) := by decide +kernel
theorem dd_Mo_ours_10 : decode bb_Mo_ours 10 = .ok (.iconst 0, 1) := by decide +kernel
theorem dd_Mo_ours_11 : decode bb_Mo_ours 11 = .ok (.iaload, 1) := by decide +kernel
theorem dd_Mo_ours_12 : decode bb_Mo_ours 12 = .ok (.if_icmp .ne (7), 3) := by decide +kernel
theorem dd_Mo_ours_15 : decode bb_Mo_ours 15 = .ok (.iconst 1, 1) := by decide +kernel
theorem dd_Mo_ours_16 : decode bb_Mo_ours 16 = .ok (.goto (4), 3) := by decide +kernel
theorem dd_Mo_ours_19 : decode bb_Mo_ours 19 = .ok (.iconst 0, 1) := by decide +kernel
theorem dd_Mo_ours_20 : decode bb_Mo_ours 20 = .ok (.istore_n 2, 1) := by decide +kernel
theorem dd_Mo_ours_21 : decode bb_Mo_ours 21 = .ok (.iconst 0, 1) := by decide +kernel
theorem dd_Mo_ours_22 : decode bb_Mo_ours 22 = .ok (.istore_n 3, 1) := by decide +kernel
theorem dd_Mo_ours_23 : decode bb_Mo_ours 23 = .ok (.iload_n 3, 1) := by decide +kernel
theorem dd_Mo_ours_24 : decode bb_Mo_ours 24 = .ok (.aload_n 0, 1) := by decide +kernel
theorem dd_Mo_ours_25 : decode bb_Mo_ours 25 = .ok (.getfield 19, 3) := by decide +kernel
theorem dd_Mo_ours_28 : decode bb_Mo_ours 28 = .ok (.iload_n 1, 1) := by decide +kernel
theorem dd_Mo_ours_29 : decode bb_Mo_ours 29 = .ok (.iaload, 1) := by decide +kernel
theorem dd_Mo_ours_30 : decode bb_Mo_ours 30 = .ok (.if_icmp .ge (39), 3) := by decide +kernel
theorem dd_Mo_ours_33 : decode bb_Mo_ours 33 = .ok (.iload_n 2, 1) := by decide +kernel
theorem dd_Mo_ours_34 : decode bb_Mo_ours 34 = .ok (.ifCond .eq (35), 3) := by decide +kernel
theorem dd_Mo_ours_37 : decode bb_Mo_ours 37 = .ok (.aload_n 0, 1) := by decide +kernel
theorem dd_Mo_ours_38 : decode bb_Mo_ours 38 = .ok (.getfield 13, 3) := by decide +kernel
theorem dd_Mo_ours_41 : decode bb_Mo_ours 41 = .ok (.bipush (40), 2) := by decide +kernel
theorem dd_Mo_ours_43 : decode bb_Mo_ours 43 = .ok (.iload_n 1, 1) := by decide +kernel
theorem dd_Mo_ours_44 : decode bb_Mo_ours 44 = .ok (.imul, 1) := by decide +kernel
theorem dd_Mo_ours_45 : decode bb_Mo_ours 45 = .ok (.iload_n 3, 1) := by decide +kernel
theorem dd_Mo_ours_46 : decode bb_Mo_ours 46 = .ok (.iadd, 1) := by decide +kernel
theorem dd_Mo_ours_47 : decode bb_Mo_ours 47 = .ok (.iaload, 1) := by decide +kernel
theorem dd_Mo_ours_48 : decode bb_Mo_ours 48 = .ok (.aload_n 0, 1) := by decide +kernel
theorem dd_Mo_ours_49 : decode bb_Mo_ours 49 = .ok (.getfield 13, 3) := by decide +kernel
theorem dd_Mo_ours_52 : decode bb_Mo_ours 52 = .ok (.iload_n 3, 1) := by decide +kernel
theorem dd_Mo_ours_53 : decode bb_Mo_ours 53 = .ok (.iaload, 1) := by decide +kernel
theorem dd_Mo_ours_54 : decode bb_Mo_ours 54 = .ok (.if_icmp .ne (7), 3) := by decide +kernel
theorem dd_Mo_ours_57 : decode bb_Mo_ours 57 = .ok (.iconst 1, 1) := by decide +kernel
theorem dd_Mo_ours_58 : decode bb_Mo_ours 58 = .ok (.goto (4), 3) := by decide +kernel
theorem dd_Mo_ours_61 : decode bb_Mo_ours 61 = .ok (.iconst 0, 1) := by decide +kernel
theorem dd_Mo_ours_62 : decode bb_Mo_ours 62 = .ok (.istore_n 2, 1) := by decide +kernel
theorem dd_Mo_ours_63 : decode bb_Mo_ours 63 = .ok (.iinc 3 (1), 3) := by decide +kernel
theorem dd_Mo_ours_66 : decode bb_Mo_ours 66 = .ok (.goto (-43), 3) := by decide +kernel
theorem dd_Mo_ours_69 : decode bb_Mo_ours 69 = .ok (.iload_n 2, 1) := by decide +kernel
theorem dd_Mo_ours_70 : decode bb_Mo_ours 70 = .ok (.ireturn, 1) := by decide +kernel
theorem dd_Mo_remove_0 : decode bb_Mo_remove 0 = .ok (.iload_n 1, 1) := by decide +kernel
theorem dd_Mo_remove_1 : decode bb_Mo_remove 1 = .ok (.iconst 0, 1) := by decide +kernel
theorem dd_Mo_remove_2 : decode bb_Mo_remove 2 = .ok (.aload_n 0, 1) := by decide +kernel
theorem dd_Mo_remove_3 : decode bb_Mo_remove 3 = .ok (.getfield 167, 3) := by decide +kernel
theorem dd_Mo_remove_6 : decode bb_Mo_remove 6 = .ok (.iconst 1, 1) := by decide +kernel
theorem dd_Mo_remove_7 : decode bb_Mo_remove 7 = .ok (.isub, 1) := by decide +kernel
theorem dd_Mo_remove_8 : decode bb_Mo_remove 8 = .ok (.invokestatic 118, 3) := by decide +kernel
theorem dd_Mo_remove_11 : decode bb_Mo_remove 11 = .ok (.ifCond .ne (12), 3) := by decide +kernel
theorem dd_Mo_remove_14 : decode bb_Mo_remove 14 = .ok (.aload_n 0, 1) := by decide +kernel
theorem dd_Mo_remove_15 : decode bb_Mo_remove 15 = .ok (.getfield 29, 3) := by decide +kernel
theorem dd_Mo_remove_18 : decode bb_Mo_remove 18 = .ok (.iload_n 1, 1) := by decide +kernel
theorem dd_Mo_remove_19 : decode bb_Mo_remove 19 = .ok (.baload, 1) := by decide +kernel
theorem dd_Mo_remove_20 : decode bb_Mo_remove 20 = .ok (.ifCond .ne (5), 3) := by decide +kernel
theorem dd_Mo_remove_23 : decode bb_Mo_remove 23 = .ok (.iconst 0, 1) := by decide +kernel
theorem dd_Mo_remove_24 : decode bb_Mo_remove 24 = .ok (.ireturn, 1) := by decide +kernel
theorem dd_Mo_remove_25 : decode bb_Mo_remove 25 = .ok (.aload_n 0, 1) := by decide +kernel
theorem dd_Mo_remove_26 : decode bb_Mo_remove 26 = .ok (.getfield 29, 3) := by decide +kernel
theorem dd_Mo_remove_29 : decode bb_Mo_remove 29 = .ok (.iload_n 1, 1) := by decide +kernel
theorem dd_Mo_remove_30 : decode bb_Mo_remove 30 = .ok (.iconst 0, 1) := by decide +kernel
theorem dd_Mo_remove_31 : decode bb_Mo_remove 31 = .ok (.bastore, 1) := by decide +kernel
theorem dd_Mo_remove_32 : decode bb_Mo_remove 32 = .ok (.iconst 1, 1) := by decide +kernel
theorem dd_Mo_remove_33 : decode bb_Mo_remove 33 = .ok (.ireturn, 1) := by decide +kernel
theorem dd_Mo_foreign_0 : decode bb_Mo_foreign 0 = .ok (.iload_n 1, 1) := by decide +kernel
theorem dd_Mo_foreign_1 : decode bb_Mo_foreign 1 = .ok (.iconst 0, 1) := by decide +kernel
theorem dd_Mo_foreign_2 : decode bb_Mo_foreign 2 = .ok (.iconst 3, 1) := by decide +kernel
theorem dd_Mo_foreign_3 : decode bb_Mo_foreign 3 = .ok (.invokestatic 118, 3) := by decide +kernel
theorem dd_Mo_foreign_6 : decode bb_Mo_foreign 6 = .ok (.ifCond .ne (23), 3) := by decide +kernel
theorem dd_Mo_foreign_9 : decode bb_Mo_foreign 9 = .ok (.aload_n 0, 1) := by decide +kernel
theorem dd_Mo_foreign_10 : decode bb_Mo_foreign 10 = .ok (.getfield 170, 3) := by decide +kernel
theorem dd_Mo_foreign_13 : decode bb_Mo_foreign 13 = .ok (.iload_n 1, 1) := by decide +kernel
theorem dd_Mo_foreign_14 : decode bb_Mo_foreign 14 = .ok (.ishr, 1) := by decide +kernel
theorem dd_Mo_foreign_15 : decode bb_Mo_foreign 15 = .ok (.iconst 1, 1) := by decide +kernel
theorem dd_Mo_foreign_16 : decode bb_Mo_foreign 16 = .ok (.iand, 1) := by decide +kernel
theorem dd_Mo_foreign_17 : decode bb_Mo_foreign 17 = .ok (.iload_n 2, 1) := by decide +kernel
theorem dd_Mo_foreign_18 : decode bb_Mo_foreign 18 = .ok (.ifCond .eq (7), 3) := by decide +kernel
theorem dd_Mo_foreign_21 : decode bb_Mo_foreign 21 = .ok (.iconst 1, 1) := by decide +kernel
theorem dd_Mo_foreign_22 : decode bb_Mo_foreign 22 = .ok (.goto (4), 3) := by decide +kernel
theorem dd_Mo_foreign_25 : decode bb_Mo_foreign 25 = .ok (.iconst 0, 1) := by decide +kernel
theorem dd_Mo_foreign_26 : decode bb_Mo_foreign 26 = .ok (.if_icmp .ne (5), 3) := by decide +kernel
theorem dd_Mo_foreign_29 : decode bb_Mo_foreign 29 = .ok (.iconst 0, 1) := by decide +kernel
theorem dd_Mo_foreign_30 : decode bb_Mo_foreign 30 = .ok (.ireturn, 1) := by decide +kernel
theorem dd_Mo_foreign_31 : decode bb_Mo_foreign 31 = .ok (.aload_n 0, 1) := by decide +kernel
theorem dd_Mo_foreign_32 : decode bb_Mo_foreign 32 = .ok (.aload_n 0, 1) := by decide +kernel
theorem dd_Mo_foreign_33 : decode bb_Mo_foreign 33 = .ok (.getfield 170, 3) := by decide +kernel
theorem dd_Mo_foreign_36 : decode bb_Mo_foreign 36 = .ok (.iconst 1, 1) := by decide +kernel
theorem dd_Mo_foreign_37 : decode bb_Mo_foreign 37 = .ok (.iload_n 1, 1) := by decide +kernel
theorem dd_Mo_foreign_38 : decode bb_Mo_foreign 38 = .ok (.ishl, 1) := by decide +kernel
theorem dd_Mo_foreign_39 : decode bb_Mo_foreign 39 = .ok (.ixor, 1) := by decide +kernel
theorem dd_Mo_foreign_40 : decode bb_Mo_foreign 40 = .ok (.putfield 170, 3) := by decide +kernel
theorem dd_Mo_foreign_43 : decode bb_Mo_foreign 43 = .ok (.iconst 1, 1) := by decide +kernel
theorem dd_Mo_foreign_44 : decode bb_Mo_foreign 44 = .ok (.ireturn, 1) := by decide +kernel
theorem dd_Mo_attest_0 : decode bb_Mo_attest 0 = .ok (.iload_n 1, 1) := by decide +kernel
theorem dd_Mo_attest_1 : decode bb_Mo_attest 1 = .ok (.iconst 0, 1) := by decide +kernel
theorem dd_Mo_attest_2 : decode bb_Mo_attest 2 = .ok (.aload_n 0, 1) := by decide +kernel
theorem dd_Mo_attest_3 : decode bb_Mo_attest 3 = .ok (.getfield 150, 3) := by decide +kernel
theorem dd_Mo_attest_6 : decode bb_Mo_attest 6 = .ok (.iconst 1, 1) := by decide +kernel
theorem dd_Mo_attest_7 : decode bb_Mo_attest 7 = .ok (.isub, 1) := by decide +kernel
theorem dd_Mo_attest_8 : decode bb_Mo_attest 8 = .ok (.invokestatic 118, 3) := by decide +kernel
theorem dd_Mo_attest_11 : decode bb_Mo_attest 11 = .ok (.ifCond .eq (7), 3) := by decide +kernel
theorem dd_Mo_attest_14 : decode bb_Mo_attest 14 = .ok (.sipush (-1001), 3) := by decide +kernel
theorem dd_Mo_attest_17 : decode bb_Mo_attest 17 = .ok (.ireturn, 1) := by decide +kernel
theorem dd_Mo_attest_18 : decode bb_Mo_attest 18 = .ok (.aload_n 0, 1) := by decide +kernel
theorem dd_Mo_attest_19 : decode bb_Mo_attest 19 = .ok (.iload_n 1, 1) := by decide +kernel
theorem dd_Mo_attest_20 : decode bb_Mo_attest 20 = .ok (.invokevirtual 163, 3) := by decide +kernel
theorem dd_Mo_attest_23 : decode bb_Mo_attest 23 = .ok (.ifCond .eq (13), 3) := by decide +kernel
theorem dd_Mo_attest_26 : decode bb_Mo_attest 26 = .ok (.iload_n 2, 1) := by decide +kernel
theorem dd_Mo_attest_27 : decode bb_Mo_attest 27 = .ok (.iconst 0, 1) := by decide +kernel
theorem dd_Mo_attest_28 : decode bb_Mo_attest 28 = .ok (.ldc 166, 2) := by decide +kernel
theorem dd_Mo_attest_30 : decode bb_Mo_attest 30 = .ok (.invokestatic 118, 3) := by decide +kernel
theorem dd_Mo_attest_33 : decode bb_Mo_attest 33 = .ok (.ifCond .eq (7), 3) := by decide +kernel
theorem dd_Mo_attest_36 : decode bb_Mo_attest 36 = .ok (.sipush (-1002), 3) := by decide +kernel
theorem dd_Mo_attest_39 : decode bb_Mo_attest 39 = .ok (.ireturn, 1) := by decide +kernel
theorem dd_Mo_attest_40 : decode bb_Mo_attest 40 = .ok (.iconst 0, 1) := by decide +kernel
theorem dd_Mo_attest_41 : decode bb_Mo_attest 41 = .ok (.istore_n 3, 1) := by decide +kernel
theorem dd_Mo_attest_42 : decode bb_Mo_attest 42 = .ok (.iload_n 3, 1) := by decide +kernel
theorem dd_Mo_attest_43 : decode bb_Mo_attest 43 = .ok (.aload_n 0, 1) := by decide +kernel
theorem dd_Mo_attest_44 : decode bb_Mo_attest 44 = .ok (.getfield 173, 3) := by decide +kernel
theorem dd_Mo_attest_47 : decode bb_Mo_attest 47 = .ok (.if_icmp .ge (19), 3) := by decide +kernel
theorem dd_Mo_attest_50 : decode bb_Mo_attest 50 = .ok (.aload_n 0, 1) := by decide +kernel
theorem dd_Mo_attest_51 : decode bb_Mo_attest 51 = .ok (.getfield 48, 3) := by decide +kernel
theorem dd_Mo_attest_54 : decode bb_Mo_attest 54 = .ok (.iload_n 3, 1) := by decide +kernel
theorem dd_Mo_attest_55 : decode bb_Mo_attest 55 = .ok (.iaload, 1) := by decide +kernel
theorem dd_Mo_attest_56 : decode bb_Mo_attest 56 = .ok (.iload_n 1, 1) := by decide +kernel
theorem dd_Mo_attest_57 : decode bb_Mo_attest 57 = .ok (.if_icmp .eq (9), 3) := by decide +kernel
theorem dd_Mo_attest_60 : decode bb_Mo_attest 60 = .ok (.iinc 3 (1), 3) := by decide +kernel
theorem dd_Mo_attest_63 : decode bb_Mo_attest 63 = .ok (.goto (-21), 3) := by decide +kernel
theorem dd_Mo_attest_66 : decode bb_Mo_attest 66 = .ok (.iload_n 3, 1) := by decide +kernel
theorem dd_Mo_attest_67 : decode bb_Mo_attest 67 = .ok (.iconst 3, 1) := by decide +kernel
theorem dd_Mo_attest_68 : decode bb_Mo_attest 68 = .ok (.if_icmp .ne (7), 3) := by decide +kernel
theorem dd_Mo_attest_71 : decode bb_Mo_attest 71 = .ok (.sipush (-1003), 3) := by decide +kernel
theorem dd_Mo_attest_74 : decode bb_Mo_attest 74 = .ok (.ireturn, 1) := by decide +kernel
theorem dd_Mo_attest_75 : decode bb_Mo_attest 75 = .ok (.aload_n 0, 1) := by decide +kernel
theorem dd_Mo_attest_76 : decode bb_Mo_attest 76 = .ok (.iload_n 3, 1) := by decide +kernel
theorem dd_Mo_attest_77 : decode bb_Mo_attest 77 = .ok (.aload_n 0, 1) := by decide +kernel
theorem dd_Mo_attest_78 : decode bb_Mo_attest 78 = .ok (.getfield 173, 3) := by decide +kernel
theorem dd_Mo_attest_81 : decode bb_Mo_attest 81 = .ok (.if_icmp .ne (12), 3) := by decide +kernel
theorem dd_Mo_attest_84 : decode bb_Mo_attest 84 = .ok (.aload_n 0, 1) := by decide +kernel
theorem dd_Mo_attest_85 : decode bb_Mo_attest 85 = .ok (.getfield 173, 3) := by decide +kernel
theorem dd_Mo_attest_88 : decode bb_Mo_attest 88 = .ok (.iconst 1, 1) := by decide +kernel
theorem dd_Mo_attest_89 : decode bb_Mo_attest 89 = .ok (.iadd, 1) := by decide +kernel
theorem dd_Mo_attest_90 : decode bb_Mo_attest 90 = .ok (.goto (7), 3) := by decide +kernel
theorem dd_Mo_attest_93 : decode bb_Mo_attest 93 = .ok (.aload_n 0, 1) := by decide +kernel
theorem dd_Mo_attest_94 : decode bb_Mo_attest 94 = .ok (.getfield 173, 3) := by decide +kernel
theorem dd_Mo_attest_97 : decode bb_Mo_attest 97 = .ok (.putfield 173, 3) := by decide +kernel
theorem dd_Mo_attest_100 : decode bb_Mo_attest 100 = .ok (.aload_n 0, 1) := by decide +kernel
theorem dd_Mo_attest_101 : decode bb_Mo_attest 101 = .ok (.getfield 48, 3) := by decide +kernel
theorem dd_Mo_attest_104 : decode bb_Mo_attest 104 = .ok (.iload_n 3, 1) := by decide +kernel
theorem dd_Mo_attest_105 : decode bb_Mo_attest 105 = .ok (.iload_n 1, 1) := by decide +kernel
theorem dd_Mo_attest_106 : decode bb_Mo_attest 106 = .ok (.iastore, 1) := by decide +kernel
theorem dd_Mo_attest_107 : decode bb_Mo_attest 107 = .ok (.aload_n 0, 1) := by decide +kernel
theorem dd_Mo_attest_108 : decode bb_Mo_attest 108 = .ok (.getfield 51, 3) := by decide +kernel
theorem dd_Mo_attest_111 : decode bb_Mo_attest 111 = .ok (.iload_n 3, 1) := by decide +kernel
theorem dd_Mo_attest_112 : decode bb_Mo_attest 112 = .ok (.iload_n 2, 1) := by decide +kernel
theorem dd_Mo_attest_113 : decode bb_Mo_attest 113 = .ok (.iastore, 1) := by decide +kernel
theorem dd_Mo_attest_114 : decode bb_Mo_attest 114 = .ok (.aload_n 0, 1) := by decide +kernel
theorem dd_Mo_attest_115 : decode bb_Mo_attest 115 = .ok (.iload_n 3, 1) := by decide +kernel
theorem dd_Mo_attest_116 : decode bb_Mo_attest 116 = .ok (.invokevirtual 176, 3) := by decide +kernel
theorem dd_Mo_attest_119 : decode bb_Mo_attest 119 = .ok (.iload_n 3, 1) := by decide +kernel
theorem dd_Mo_attest_120 : decode bb_Mo_attest 120 = .ok (.ireturn, 1) := by decide +kernel
