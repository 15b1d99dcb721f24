theorem dd_La_law_0 : decode code 0 = .ok (.new 7, 3) := by decide +kernel
theorem dd_La_law_3 : decode code 3 = .ok (.dup, 1) := by decide +kernel
theorem dd_La_law_4 : decode code 4 = .ok (.aload_n 0, 1) := by decide +kernel
theorem dd_La_law_5 : decode code 5 = .ok (.iconst 0, 1) := by decide +kernel
theorem dd_La_law_6 : decode code 6 = .ok (.invokestatic 9, 3) := by decide +kernel
theorem dd_La_law_9 : decode code 9 = .ok (.invokespecial 15, 3) := by decide +kernel
theorem dd_La_law_12 : decode code 12 = .ok (.astore_n 1, 1) := by decide +kernel
theorem dd_La_law_13 : decode code 13 = .ok (.new 18, 3) := by decide +kernel
theorem dd_La_law_16 : decode code 16 = .ok (.dup, 1) := by decide +kernel
theorem dd_La_law_17 : decode code 17 = .ok (.aload_n 0, 1) := by decide +kernel
theorem dd_La_law_18 : decode code 18 = .ok (.iconst 0, 1) := by decide +kernel
theorem dd_La_law_19 : decode code 19 = .ok (.invokestatic 9, 3) := by decide +kernel
theorem dd_La_law_22 : decode code 22 = .ok (.invokespecial 20, 3) := by decide +kernel
theorem dd_La_law_25 : decode code 25 = .ok (.astore_n 2, 1) := by decide +kernel
theorem dd_La_law_26 : decode code 26 = .ok (.iconst 1, 1) := by decide +kernel
theorem dd_La_law_27 : decode code 27 = .ok (.istore_n 3, 1) := by decide +kernel
theorem dd_La_law_28 : decode code 28 = .ok (.iload_n 3, 1) := by decide +kernel
theorem dd_La_law_29 : decode code 29 = .ok (.aload_n 0, 1) := by decide +kernel
theorem dd_La_law_30 : decode code 30 = .ok (.arraylength, 1) := by decide +kernel
theorem dd_La_law_31 : decode code 31 = .ok (.bipush (6), 2) := by decide +kernel
theorem dd_La_law_33 : decode code 33 = .ok (.isub, 1) := by decide +kernel
theorem dd_La_law_34 : decode code 34 = .ok (.if_icmp .gt (590), 3) := by decide +kernel
theorem dd_La_law_37 : decode code 37 = .ok (.aload_n 0, 1) := by decide +kernel
theorem dd_La_law_38 : decode code 38 = .ok (.iload_n 3, 1) := by decide +kernel
theorem dd_La_law_39 : decode code 39 = .ok (.iaload, 1) := by decide +kernel
theorem dd_La_law_40 : decode code 40 = .ok (.bipush (31), 2) := by decide +kernel
theorem dd_La_law_42 : decode code 42 = .ok (.iand, 1) := by decide +kernel
theorem dd_La_law_43 : decode code 43 = .ok (.tableswitch (575) (0) (17) #[85, 118, 131, 194, 217, 266, 299, 322, 355, 388, 411, 444, 467, 480, 513, 526, 539, 552], 85) := by decide +kernel
theorem dd_La_law_128 : decode code 128 = .ok (.aload_n 1, 1) := by decide +kernel
theorem dd_La_law_129 : decode code 129 = .ok (.aload_n 0, 1) := by decide +kernel
theorem dd_La_law_130 : decode code 130 = .ok (.iload_n 3, 1) := by decide +kernel
theorem dd_La_law_131 : decode code 131 = .ok (.iconst 1, 1) := by decide +kernel
theorem dd_La_law_132 : decode code 132 = .ok (.iadd, 1) := by decide +kernel
theorem dd_La_law_133 : decode code 133 = .ok (.iaload, 1) := by decide +kernel
theorem dd_La_law_134 : decode code 134 = .ok (.aload_n 0, 1) := by decide +kernel
theorem dd_La_law_135 : decode code 135 = .ok (.iload_n 3, 1) := by decide +kernel
theorem dd_La_law_136 : decode code 136 = .ok (.iconst 2, 1) := by decide +kernel
theorem dd_La_law_137 : decode code 137 = .ok (.iadd, 1) := by decide +kernel
theorem dd_La_law_138 : decode code 138 = .ok (.iaload, 1) := by decide +kernel
theorem dd_La_law_139 : decode code 139 = .ok (.invokevirtual 21, 3) := by decide +kernel
theorem dd_La_law_142 : decode code 142 = .ok (.aload_n 2, 1) := by decide +kernel
theorem dd_La_law_143 : decode code 143 = .ok (.aload_n 0, 1) := by decide +kernel
theorem dd_La_law_144 : decode code 144 = .ok (.iload_n 3, 1) := by decide +kernel
theorem dd_La_law_145 : decode code 145 = .ok (.iconst 1, 1) := by decide +kernel
theorem dd_La_law_146 : decode code 146 = .ok (.iadd, 1) := by decide +kernel
theorem dd_La_law_147 : decode code 147 = .ok (.iaload, 1) := by decide +kernel
theorem dd_La_law_148 : decode code 148 = .ok (.aload_n 0, 1) := by decide +kernel
theorem dd_La_law_149 : decode code 149 = .ok (.iload_n 3, 1) := by decide +kernel
theorem dd_La_law_150 : decode code 150 = .ok (.iconst 2, 1) := by decide +kernel
theorem dd_La_law_151 : decode code 151 = .ok (.iadd, 1) := by decide +kernel
theorem dd_La_law_152 : decode code 152 = .ok (.iaload, 1) := by decide +kernel
theorem dd_La_law_153 : decode code 153 = .ok (.invokevirtual 25, 3) := by decide +kernel
theorem dd_La_law_156 : decode code 156 = .ok (.if_icmp .eq (462), 3) := by decide +kernel
theorem dd_La_law_161 : decode code 161 = .ok (.aload_n 1, 1) := by decide +kernel
theorem dd_La_law_162 : decode code 162 = .ok (.invokevirtual 26, 3) := by decide +kernel
theorem dd_La_law_165 : decode code 165 = .ok (.aload_n 2, 1) := by decide +kernel
theorem dd_La_law_166 : decode code 166 = .ok (.invokevirtual 30, 3) := by decide +kernel
theorem dd_La_law_169 : decode code 169 = .ok (.if_icmp .eq (449), 3) := by decide +kernel
theorem dd_La_law_174 : decode code 174 = .ok (.aload_n 1, 1) := by decide +kernel
theorem dd_La_law_175 : decode code 175 = .ok (.aload_n 0, 1) := by decide +kernel
theorem dd_La_law_176 : decode code 176 = .ok (.iload_n 3, 1) := by decide +kernel
theorem dd_La_law_177 : decode code 177 = .ok (.iconst 1, 1) := by decide +kernel
theorem dd_La_law_178 : decode code 178 = .ok (.iadd, 1) := by decide +kernel
theorem dd_La_law_179 : decode code 179 = .ok (.iaload, 1) := by decide +kernel
theorem dd_La_law_180 : decode code 180 = .ok (.aload_n 0, 1) := by decide +kernel
theorem dd_La_law_181 : decode code 181 = .ok (.iload_n 3, 1) := by decide +kernel
theorem dd_La_law_182 : decode code 182 = .ok (.iconst 2, 1) := by decide +kernel
theorem dd_La_law_183 : decode code 183 = .ok (.iadd, 1) := by decide +kernel
theorem dd_La_law_184 : decode code 184 = .ok (.iaload, 1) := by decide +kernel
theorem dd_La_law_185 : decode code 185 = .ok (.aload_n 0, 1) := by decide +kernel
theorem dd_La_law_186 : decode code 186 = .ok (.iload_n 3, 1) := by decide +kernel
theorem dd_La_law_187 : decode code 187 = .ok (.iconst 3, 1) := by decide +kernel
theorem dd_La_law_188 : decode code 188 = .ok (.iadd, 1) := by decide +kernel
theorem dd_La_law_189 : decode code 189 = .ok (.iaload, 1) := by decide +kernel
theorem dd_La_law_190 : decode code 190 = .ok (.aload_n 0, 1) := by decide +kernel
theorem dd_La_law_191 : decode code 191 = .ok (.iload_n 3, 1) := by decide +kernel
theorem dd_La_law_192 : decode code 192 = .ok (.iconst 4, 1) := by decide +kernel
theorem dd_La_law_193 : decode code 193 = .ok (.iadd, 1) := by decide +kernel
theorem dd_La_law_194 : decode code 194 = .ok (.iaload, 1) := by decide +kernel
theorem dd_La_law_195 : decode code 195 = .ok (.aload_n 0, 1) := by decide +kernel
theorem dd_La_law_196 : decode code 196 = .ok (.iload_n 3, 1) := by decide +kernel
theorem dd_La_law_197 : decode code 197 = .ok (.iconst 5, 1) := by decide +kernel
theorem dd_La_law_198 : decode code 198 = .ok (.iadd, 1) := by decide +kernel
theorem dd_La_law_199 : decode code 199 = .ok (.iaload, 1) := by decide +kernel
theorem dd_La_law_200 : decode code 200 = .ok (.invokevirtual 31, 3) := by decide +kernel
theorem dd_La_law_203 : decode code 203 = .ok (.aload_n 2, 1) := by decide +kernel
theorem dd_La_law_204 : decode code 204 = .ok (.aload_n 0, 1) := by decide +kernel
theorem dd_La_law_205 : decode code 205 = .ok (.iload_n 3, 1) := by decide +kernel
theorem dd_La_law_206 : decode code 206 = .ok (.iconst 1, 1) := by decide +kernel
theorem dd_La_law_207 : decode code 207 = .ok (.iadd, 1) := by decide +kernel
theorem dd_La_law_208 : decode code 208 = .ok (.iaload, 1) := by decide +kernel
theorem dd_La_law_209 : decode code 209 = .ok (.aload_n 0, 1) := by decide +kernel
theorem dd_La_law_210 : decode code 210 = .ok (.iload_n 3, 1) := by decide +kernel
theorem dd_La_law_211 : decode code 211 = .ok (.iconst 2, 1) := by decide +kernel
theorem dd_La_law_212 : decode code 212 = .ok (.iadd, 1) := by decide +kernel
theorem dd_La_law_213 : decode code 213 = .ok (.iaload, 1) := by decide +kernel
theorem dd_La_law_214 : decode code 214 = .ok (.aload_n 0, 1) := by decide +kernel
theorem dd_La_law_215 : decode code 215 = .ok (.iload_n 3, 1) := by decide +kernel
theorem dd_La_law_216 : decode code 216 = .ok (.iconst 3, 1) := by decide +kernel
theorem dd_La_law_217 : decode code 217 = .ok (.iadd, 1) := by decide +kernel
theorem dd_La_law_218 : decode code 218 = .ok (.iaload, 1) := by decide +kernel
theorem dd_La_law_219 : decode code 219 = .ok (.aload_n 0, 1) := by decide +kernel
theorem dd_La_law_220 : decode code 220 = .ok (.iload_n 3, 1) := by decide +kernel
theorem dd_La_law_221 : decode code 221 = .ok (.iconst 4, 1) := by decide +kernel
theorem dd_La_law_222 : decode code 222 = .ok (.iadd, 1) := by decide +kernel
theorem dd_La_law_223 : decode code 223 = .ok (.iaload, 1) := by decide +kernel
theorem dd_La_law_224 : decode code 224 = .ok (.aload_n 0, 1) := by decide +kernel
theorem dd_La_law_225 : decode code 225 = .ok (.iload_n 3, 1) := by decide +kernel
theorem dd_La_law_226 : decode code 226 = .ok (.iconst 5, 1) := by decide +kernel
theorem dd_La_law_227 : decode code 227 = .ok (.iadd, 1) := by decide +kernel
theorem dd_La_law_228 : decode code 228 = .ok (.iaload, 1) := by decide +kernel
theorem dd_La_law_229 : decode code 229 = .ok (.invokevirtual 35, 3) := by decide +kernel
theorem dd_La_law_232 : decode code 232 = .ok (.if_icmp .eq (386), 3) := by decide +kernel
theorem dd_La_law_237 : decode code 237 = .ok (.aload_n 1, 1) := by decide +kernel
theorem dd_La_law_238 : decode code 238 = .ok (.aload_n 0, 1) := by decide +kernel
theorem dd_La_law_239 : decode code 239 = .ok (.iload_n 3, 1) := by decide +kernel
theorem dd_La_law_240 : decode code 240 = .ok (.iconst 1, 1) := by decide +kernel
theorem dd_La_law_241 : decode code 241 = .ok (.iadd, 1) := by decide +kernel
theorem dd_La_law_242 : decode code 242 = .ok (.iaload, 1) := by decide +kernel
theorem dd_La_law_243 : decode code 243 = .ok (.invokevirtual 36, 3) := by decide +kernel
theorem dd_La_law_246 : decode code 246 = .ok (.aload_n 2, 1) := by decide +kernel
theorem dd_La_law_247 : decode code 247 = .ok (.aload_n 0, 1) := by decide +kernel
theorem dd_La_law_248 : decode code 248 = .ok (.iload_n 3, 1) := by decide +kernel
theorem dd_La_law_249 : decode code 249 = .ok (.iconst 1, 1) := by decide +kernel
theorem dd_La_law_250 : decode code 250 = .ok (.iadd, 1) := by decide +kernel
theorem dd_La_law_251 : decode code 251 = .ok (.iaload, 1) := by decide +kernel
theorem dd_La_law_252 : decode code 252 = .ok (.invokevirtual 40, 3) := by decide +kernel
theorem dd_La_law_255 : decode code 255 = .ok (.if_icmp .eq (363), 3) := by decide +kernel
theorem dd_La_law_260 : decode code 260 = .ok (.aload_n 1, 1) := by decide +kernel
theorem dd_La_law_261 : decode code 261 = .ok (.aload_n 0, 1) := by decide +kernel
theorem dd_La_law_262 : decode code 262 = .ok (.iload_n 3, 1) := by decide +kernel
theorem dd_La_law_263 : decode code 263 = .ok (.iconst 1, 1) := by decide +kernel
theorem dd_La_law_264 : decode code 264 = .ok (.iadd, 1) := by decide +kernel
theorem dd_La_law_265 : decode code 265 = .ok (.iaload, 1) := by decide +kernel
theorem dd_La_law_266 : decode code 266 = .ok (.aload_n 0, 1) := by decide +kernel
theorem dd_La_law_267 : decode code 267 = .ok (.iload_n 3, 1) := by decide +kernel
theorem dd_La_law_268 : decode code 268 = .ok (.iconst 2, 1) := by decide +kernel
theorem dd_La_law_269 : decode code 269 = .ok (.iadd, 1) := by decide +kernel
theorem dd_La_law_270 : decode code 270 = .ok (.iaload, 1) := by decide +kernel
theorem dd_La_law_271 : decode code 271 = .ok (.ifCond .eq (7), 3) := by decide +kernel
theorem dd_La_law_274 : decode code 274 = .ok (.iconst 1, 1) := by decide +kernel
theorem dd_La_law_275 : decode code 275 = .ok (.goto (4), 3) := by decide +kernel
theorem dd_La_law_278 : decode code 278 = .ok (.iconst 0, 1) := by decide +kernel
theorem dd_La_law_279 : decode code 279 = .ok (.invokevirtual 41, 3) := by decide +kernel
theorem dd_La_law_282 : decode code 282 = .ok (.aload_n 2, 1) := by decide +kernel
theorem dd_La_law_283 : decode code 283 = .ok (.aload_n 0, 1) := by decide +kernel
theorem dd_La_law_284 : decode code 284 = .ok (.iload_n 3, 1) := by decide +kernel
theorem dd_La_law_285 : decode code 285 = .ok (.iconst 1, 1) := by decide +kernel
theorem dd_La_law_286 : decode code 286 = .ok (.iadd, 1) := by decide +kernel
theorem dd_La_law_287 : decode code 287 = .ok (.iaload, 1) := by decide +kernel
theorem dd_La_law_288 : decode code 288 = .ok (.aload_n 0, 1) := by decide +kernel
theorem dd_La_law_289 : decode code 289 = .ok (.iload_n 3, 1) := by decide +kernel
theorem dd_La_law_290 : decode code 290 = .ok (.iconst 2, 1) := by decide +kernel
theorem dd_La_law_291 : decode code 291 = .ok (.iadd, 1) := by decide +kernel
theorem dd_La_law_292 : decode code 292 = .ok (.iaload, 1) := by decide +kernel
theorem dd_La_law_293 : decode code 293 = .ok (.ifCond .eq (7), 3) := by decide +kernel
theorem dd_La_law_296 : decode code 296 = .ok (.iconst 1, 1) := by decide +kernel
theorem dd_La_law_297 : decode code 297 = .ok (.goto (4), 3) := by decide +kernel
theorem dd_La_law_300 : decode code 300 = .ok (.iconst 0, 1) := by decide +kernel
theorem dd_La_law_301 : decode code 301 = .ok (.invokevirtual 45, 3) := by decide +kernel
theorem dd_La_law_304 : decode code 304 = .ok (.if_icmp .eq (314), 3) := by decide +kernel
theorem dd_La_law_309 : decode code 309 = .ok (.aload_n 1, 1) := by decide +kernel
theorem dd_La_law_310 : decode code 310 = .ok (.aload_n 0, 1) := by decide +kernel
theorem dd_La_law_311 : decode code 311 = .ok (.iload_n 3, 1) := by decide +kernel
theorem dd_La_law_312 : decode code 312 = .ok (.iconst 1, 1) := by decide +kernel
theorem dd_La_law_313 : decode code 313 = .ok (.iadd, 1) := by decide +kernel
theorem dd_La_law_314 : decode code 314 = .ok (.iaload, 1) := by decide +kernel
theorem dd_La_law_315 : decode code 315 = .ok (.aload_n 0, 1) := by decide +kernel
theorem dd_La_law_316 : decode code 316 = .ok (.iload_n 3, 1) := by decide +kernel
theorem dd_La_law_317 : decode code 317 = .ok (.iconst 2, 1) := by decide +kernel
theorem dd_La_law_318 : decode code 318 = .ok (.iadd, 1) := by decide +kernel
theorem dd_La_law_319 : decode code 319 = .ok (.iaload, 1) := by decide +kernel
theorem dd_La_law_320 : decode code 320 = .ok (.invokevirtual 46, 3) := by decide +kernel
theorem dd_La_law_323 : decode code 323 = .ok (.aload_n 2, 1) := by decide +kernel
theorem dd_La_law_324 : decode code 324 = .ok (.aload_n 0, 1) := by decide +kernel
theorem dd_La_law_325 : decode code 325 = .ok (.iload_n 3, 1) := by decide +kernel
theorem dd_La_law_326 : decode code 326 = .ok (.iconst 1, 1) := by decide +kernel
theorem dd_La_law_327 : decode code 327 = .ok (.iadd, 1) := by decide +kernel
theorem dd_La_law_328 : decode code 328 = .ok (.iaload, 1) := by decide +kernel
theorem dd_La_law_329 : decode code 329 = .ok (.aload_n 0, 1) := by decide +kernel
theorem dd_La_law_330 : decode code 330 = .ok (.iload_n 3, 1) := by decide +kernel
theorem dd_La_law_331 : decode code 331 = .ok (.iconst 2, 1) := by decide +kernel
theorem dd_La_law_332 : decode code 332 = .ok (.iadd, 1) := by decide +kernel
theorem dd_La_law_333 : decode code 333 = .ok (.iaload, 1) := by decide +kernel
theorem dd_La_law_334 : decode code 334 = .ok (.invokevirtual 50, 3) := by decide +kernel
theorem dd_La_law_337 : decode code 337 = .ok (.if_icmp .eq (281), 3) := by decide +kernel
theorem dd_La_law_342 : decode code 342 = .ok (.aload_n 1, 1) := by decide +kernel
theorem dd_La_law_343 : decode code 343 = .ok (.aload_n 0, 1) := by decide +kernel
theorem dd_La_law_344 : decode code 344 = .ok (.iload_n 3, 1) := by decide +kernel
theorem dd_La_law_345 : decode code 345 = .ok (.iconst 1, 1) := by decide +kernel
theorem dd_La_law_346 : decode code 346 = .ok (.iadd, 1) := by decide +kernel
theorem dd_La_law_347 : decode code 347 = .ok (.iaload, 1) := by decide +kernel
theorem dd_La_law_348 : decode code 348 = .ok (.invokevirtual 51, 3) := by decide +kernel
theorem dd_La_law_351 : decode code 351 = .ok (.aload_n 2, 1) := by decide +kernel
theorem dd_La_law_352 : decode code 352 = .ok (.aload_n 0, 1) := by decide +kernel
theorem dd_La_law_353 : decode code 353 = .ok (.iload_n 3, 1) := by decide +kernel
theorem dd_La_law_354 : decode code 354 = .ok (.iconst 1, 1) := by decide +kernel
theorem dd_La_law_355 : decode code 355 = .ok (.iadd, 1) := by decide +kernel
theorem dd_La_law_356 : decode code 356 = .ok (.iaload, 1) := by decide +kernel
theorem dd_La_law_357 : decode code 357 = .ok (.invokevirtual 55, 3) := by decide +kernel
theorem dd_La_law_360 : decode code 360 = .ok (.if_icmp .eq (258), 3) := by decide +kernel
theorem dd_La_law_365 : decode code 365 = .ok (.aload_n 1, 1) := by decide +kernel
theorem dd_La_law_366 : decode code 366 = .ok (.aload_n 0, 1) := by decide +kernel
theorem dd_La_law_367 : decode code 367 = .ok (.iload_n 3, 1) := by decide +kernel
theorem dd_La_law_368 : decode code 368 = .ok (.iconst 1, 1) := by decide +kernel
theorem dd_La_law_369 : decode code 369 = .ok (.iadd, 1) := by decide +kernel
theorem dd_La_law_370 : decode code 370 = .ok (.iaload, 1) := by decide +kernel
theorem dd_La_law_371 : decode code 371 = .ok (.aload_n 0, 1) := by decide +kernel
theorem dd_La_law_372 : decode code 372 = .ok (.iload_n 3, 1) := by decide +kernel
theorem dd_La_law_373 : decode code 373 = .ok (.iconst 2, 1) := by decide +kernel
theorem dd_La_law_374 : decode code 374 = .ok (.iadd, 1) := by decide +kernel
theorem dd_La_law_375 : decode code 375 = .ok (.iaload, 1) := by decide +kernel
theorem dd_La_law_376 : decode code 376 = .ok (.invokevirtual 56, 3) := by decide +kernel
theorem dd_La_law_379 : decode code 379 = .ok (.aload_n 2, 1) := by decide +kernel
theorem dd_La_law_380 : decode code 380 = .ok (.aload_n 0, 1) := by decide +kernel
theorem dd_La_law_381 : decode code 381 = .ok (.iload_n 3, 1) := by decide +kernel
theorem dd_La_law_382 : decode code 382 = .ok (.iconst 1, 1) := by decide +kernel
theorem dd_La_law_383 : decode code 383 = .ok (.iadd, 1) := by decide +kernel
theorem dd_La_law_384 : decode code 384 = .ok (.iaload, 1) := by decide +kernel
theorem dd_La_law_385 : decode code 385 = .ok (.aload_n 0, 1) := by decide +kernel
theorem dd_La_law_386 : decode code 386 = .ok (.iload_n 3, 1) := by decide +kernel
theorem dd_La_law_387 : decode code 387 = .ok (.iconst 2, 1) := by decide +kernel
theorem dd_La_law_388 : decode code 388 = .ok (.iadd, 1) := by decide +kernel
theorem dd_La_law_389 : decode code 389 = .ok (.iaload, 1) := by decide +kernel
theorem dd_La_law_390 : decode code 390 = .ok (.invokevirtual 59, 3) := by decide +kernel
theorem dd_La_law_393 : decode code 393 = .ok (.if_icmp .eq (225), 3) := by decide +kernel
theorem dd_La_law_398 : decode code 398 = .ok (.aload_n 1, 1) := by decide +kernel
theorem dd_La_law_399 : decode code 399 = .ok (.aload_n 0, 1) := by decide +kernel
theorem dd_La_law_400 : decode code 400 = .ok (.iload_n 3, 1) := by decide +kernel
theorem dd_La_law_401 : decode code 401 = .ok (.iconst 1, 1) := by decide +kernel
theorem dd_La_law_402 : decode code 402 = .ok (.iadd, 1) := by decide +kernel
theorem dd_La_law_403 : decode code 403 = .ok (.iaload, 1) := by decide +kernel
theorem dd_La_law_404 : decode code 404 = .ok (.aload_n 0, 1) := by decide +kernel
theorem dd_La_law_405 : decode code 405 = .ok (.iload_n 3, 1) := by decide +kernel
theorem dd_La_law_406 : decode code 406 = .ok (.iconst 2, 1) := by decide +kernel
theorem dd_La_law_407 : decode code 407 = .ok (.iadd, 1) := by decide +kernel
theorem dd_La_law_408 : decode code 408 = .ok (.iaload, 1) := by decide +kernel
theorem dd_La_law_409 : decode code 409 = .ok (.invokevirtual 60, 3) := by decide +kernel
theorem dd_La_law_412 : decode code 412 = .ok (.aload_n 2, 1) := by decide +kernel
theorem dd_La_law_413 : decode code 413 = .ok (.aload_n 0, 1) := by decide +kernel
theorem dd_La_law_414 : decode code 414 = .ok (.iload_n 3, 1) := by decide +kernel
theorem dd_La_law_415 : decode code 415 = .ok (.iconst 1, 1) := by decide +kernel
theorem dd_La_law_416 : decode code 416 = .ok (.iadd, 1) := by decide +kernel
theorem dd_La_law_417 : decode code 417 = .ok (.iaload, 1) := by decide +kernel
theorem dd_La_law_418 : decode code 418 = .ok (.aload_n 0, 1) := by decide +kernel
theorem dd_La_law_419 : decode code 419 = .ok (.iload_n 3, 1) := by decide +kernel
theorem dd_La_law_420 : decode code 420 = .ok (.iconst 2, 1) := by decide +kernel
theorem dd_La_law_421 : decode code 421 = .ok (.iadd, 1) := by decide +kernel
theorem dd_La_law_422 : decode code 422 = .ok (.iaload, 1) := by decide +kernel
theorem dd_La_law_423 : decode code 423 = .ok (.invokevirtual 63, 3) := by decide +kernel
theorem dd_La_law_426 : decode code 426 = .ok (.if_icmp .eq (192), 3) := by decide +kernel
theorem dd_La_law_431 : decode code 431 = .ok (.aload_n 1, 1) := by decide +kernel
theorem dd_La_law_432 : decode code 432 = .ok (.aload_n 0, 1) := by decide +kernel
theorem dd_La_law_433 : decode code 433 = .ok (.iload_n 3, 1) := by decide +kernel
theorem dd_La_law_434 : decode code 434 = .ok (.iconst 1, 1) := by decide +kernel
theorem dd_La_law_435 : decode code 435 = .ok (.iadd, 1) := by decide +kernel
theorem dd_La_law_436 : decode code 436 = .ok (.iaload, 1) := by decide +kernel
theorem dd_La_law_437 : decode code 437 = .ok (.invokevirtual 64, 3) := by decide +kernel
theorem dd_La_law_440 : decode code 440 = .ok (.aload_n 2, 1) := by decide +kernel
theorem dd_La_law_441 : decode code 441 = .ok (.aload_n 0, 1) := by decide +kernel
theorem dd_La_law_442 : decode code 442 = .ok (.iload_n 3, 1) := by decide +kernel
theorem dd_La_law_443 : decode code 443 = .ok (.iconst 1, 1) := by decide +kernel
theorem dd_La_law_444 : decode code 444 = .ok (.iadd, 1) := by decide +kernel
theorem dd_La_law_445 : decode code 445 = .ok (.iaload, 1) := by decide +kernel
theorem dd_La_law_446 : decode code 446 = .ok (.invokevirtual 67, 3) := by decide +kernel
theorem dd_La_law_449 : decode code 449 = .ok (.if_icmp .eq (169), 3) := by decide +kernel
theorem dd_La_law_454 : decode code 454 = .ok (.aload_n 1, 1) := by decide +kernel
theorem dd_La_law_455 : decode code 455 = .ok (.aload_n 0, 1) := by decide +kernel
theorem dd_La_law_456 : decode code 456 = .ok (.iload_n 3, 1) := by decide +kernel
theorem dd_La_law_457 : decode code 457 = .ok (.iconst 1, 1) := by decide +kernel
theorem dd_La_law_458 : decode code 458 = .ok (.iadd, 1) := by decide +kernel
theorem dd_La_law_459 : decode code 459 = .ok (.iaload, 1) := by decide +kernel
theorem dd_La_law_460 : decode code 460 = .ok (.aload_n 0, 1) := by decide +kernel
theorem dd_La_law_461 : decode code 461 = .ok (.iload_n 3, 1) := by decide +kernel
theorem dd_La_law_462 : decode code 462 = .ok (.iconst 2, 1) := by decide +kernel
theorem dd_La_law_463 : decode code 463 = .ok (.iadd, 1) := by decide +kernel
theorem dd_La_law_464 : decode code 464 = .ok (.iaload, 1) := by decide +kernel
theorem dd_La_law_465 : decode code 465 = .ok (.invokevirtual 68, 3) := by decide +kernel
theorem dd_La_law_468 : decode code 468 = .ok (.aload_n 2, 1) := by decide +kernel
theorem dd_La_law_469 : decode code 469 = .ok (.aload_n 0, 1) := by decide +kernel
theorem dd_La_law_470 : decode code 470 = .ok (.iload_n 3, 1) := by decide +kernel
theorem dd_La_law_471 : decode code 471 = .ok (.iconst 1, 1) := by decide +kernel
theorem dd_La_law_472 : decode code 472 = .ok (.iadd, 1) := by decide +kernel
theorem dd_La_law_473 : decode code 473 = .ok (.iaload, 1) := by decide +kernel
theorem dd_La_law_474 : decode code 474 = .ok (.aload_n 0, 1) := by decide +kernel
theorem dd_La_law_475 : decode code 475 = .ok (.iload_n 3, 1) := by decide +kernel
theorem dd_La_law_476 : decode code 476 = .ok (.iconst 2, 1) := by decide +kernel
theorem dd_La_law_477 : decode code 477 = .ok (.iadd, 1) := by decide +kernel
theorem dd_La_law_478 : decode code 478 = .ok (.iaload, 1) := by decide +kernel
theorem dd_La_law_479 : decode code 479 = .ok (.invokevirtual 71, 3) := by decide +kernel
theorem dd_La_law_482 : decode code 482 = .ok (.if_icmp .eq (136), 3) := by decide +kernel
theorem dd_La_law_487 : decode code 487 = .ok (.aload_n 1, 1) := by decide +kernel
theorem dd_La_law_488 : decode code 488 = .ok (.aload_n 0, 1) := by decide +kernel
theorem dd_La_law_489 : decode code 489 = .ok (.iload_n 3, 1) := by decide +kernel
theorem dd_La_law_490 : decode code 490 = .ok (.iconst 1, 1) := by decide +kernel
theorem dd_La_law_491 : decode code 491 = .ok (.iadd, 1) := by decide +kernel
theorem dd_La_law_492 : decode code 492 = .ok (.iaload, 1) := by decide +kernel
theorem dd_La_law_493 : decode code 493 = .ok (.invokevirtual 72, 3) := by decide +kernel
theorem dd_La_law_496 : decode code 496 = .ok (.aload_n 2, 1) := by decide +kernel
theorem dd_La_law_497 : decode code 497 = .ok (.aload_n 0, 1) := by decide +kernel
theorem dd_La_law_498 : decode code 498 = .ok (.iload_n 3, 1) := by decide +kernel
theorem dd_La_law_499 : decode code 499 = .ok (.iconst 1, 1) := by decide +kernel
theorem dd_La_law_500 : decode code 500 = .ok (.iadd, 1) := by decide +kernel
theorem dd_La_law_501 : decode code 501 = .ok (.iaload, 1) := by decide +kernel
theorem dd_La_law_502 : decode code 502 = .ok (.invokevirtual 75, 3) := by decide +kernel
theorem dd_La_law_505 : decode code 505 = .ok (.if_icmp .eq (113), 3) := by decide +kernel
theorem dd_La_law_510 : decode code 510 = .ok (.aload_n 1, 1) := by decide +kernel
theorem dd_La_law_511 : decode code 511 = .ok (.invokevirtual 76, 3) := by decide +kernel
theorem dd_La_law_514 : decode code 514 = .ok (.aload_n 2, 1) := by decide +kernel
theorem dd_La_law_515 : decode code 515 = .ok (.invokevirtual 79, 3) := by decide +kernel
theorem dd_La_law_518 : decode code 518 = .ok (.if_icmp .eq (100), 3) := by decide +kernel
theorem dd_La_law_523 : decode code 523 = .ok (.aload_n 1, 1) := by decide +kernel
theorem dd_La_law_524 : decode code 524 = .ok (.aload_n 0, 1) := by decide +kernel
theorem dd_La_law_525 : decode code 525 = .ok (.iload_n 3, 1) := by decide +kernel
theorem dd_La_law_526 : decode code 526 = .ok (.iconst 1, 1) := by decide +kernel
theorem dd_La_law_527 : decode code 527 = .ok (.iadd, 1) := by decide +kernel
theorem dd_La_law_528 : decode code 528 = .ok (.iaload, 1) := by decide +kernel
theorem dd_La_law_529 : decode code 529 = .ok (.aload_n 0, 1) := by decide +kernel
theorem dd_La_law_530 : decode code 530 = .ok (.iload_n 3, 1) := by decide +kernel
theorem dd_La_law_531 : decode code 531 = .ok (.iconst 2, 1) := by decide +kernel
theorem dd_La_law_532 : decode code 532 = .ok (.iadd, 1) := by decide +kernel
theorem dd_La_law_533 : decode code 533 = .ok (.iaload, 1) := by decide +kernel
theorem dd_La_law_534 : decode code 534 = .ok (.invokevirtual 80, 3) := by decide +kernel
theorem dd_La_law_537 : decode code 537 = .ok (.aload_n 2, 1) := by decide +kernel
theorem dd_La_law_538 : decode code 538 = .ok (.aload_n 0, 1) := by decide +kernel
theorem dd_La_law_539 : decode code 539 = .ok (.iload_n 3, 1) := by decide +kernel
theorem dd_La_law_540 : decode code 540 = .ok (.iconst 1, 1) := by decide +kernel
theorem dd_La_law_541 : decode code 541 = .ok (.iadd, 1) := by decide +kernel
theorem dd_La_law_542 : decode code 542 = .ok (.iaload, 1) := by decide +kernel
theorem dd_La_law_543 : decode code 543 = .ok (.aload_n 0, 1) := by decide +kernel
theorem dd_La_law_544 : decode code 544 = .ok (.iload_n 3, 1) := by decide +kernel
theorem dd_La_law_545 : decode code 545 = .ok (.iconst 2, 1) := by decide +kernel
theorem dd_La_law_546 : decode code 546 = .ok (.iadd, 1) := by decide +kernel
theorem dd_La_law_547 : decode code 547 = .ok (.iaload, 1) := by decide +kernel
theorem dd_La_law_548 : decode code 548 = .ok (.invokevirtual 83, 3) := by decide +kernel
theorem dd_La_law_551 : decode code 551 = .ok (.if_icmp .eq (67), 3) := by decide +kernel
theorem dd_La_law_556 : decode code 556 = .ok (.aload_n 1, 1) := by decide +kernel
theorem dd_La_law_557 : decode code 557 = .ok (.invokevirtual 84, 3) := by decide +kernel
theorem dd_La_law_560 : decode code 560 = .ok (.aload_n 2, 1) := by decide +kernel
theorem dd_La_law_561 : decode code 561 = .ok (.invokevirtual 87, 3) := by decide +kernel
theorem dd_La_law_564 : decode code 564 = .ok (.if_icmp .eq (54), 3) := by decide +kernel
theorem dd_La_law_569 : decode code 569 = .ok (.aload_n 1, 1) := by decide +kernel
theorem dd_La_law_570 : decode code 570 = .ok (.invokevirtual 88, 3) := by decide +kernel
theorem dd_La_law_573 : decode code 573 = .ok (.aload_n 2, 1) := by decide +kernel
theorem dd_La_law_574 : decode code 574 = .ok (.invokevirtual 91, 3) := by decide +kernel
theorem dd_La_law_577 : decode code 577 = .ok (.if_icmp .eq (41), 3) := by decide +kernel
theorem dd_La_law_582 : decode code 582 = .ok (.aload_n 1, 1) := by decide +kernel
theorem dd_La_law_583 : decode code 583 = .ok (.invokevirtual 92, 3) := by decide +kernel
theorem dd_La_law_586 : decode code 586 = .ok (.aload_n 2, 1) := by decide +kernel
theorem dd_La_law_587 : decode code 587 = .ok (.invokevirtual 96, 3) := by decide +kernel
theorem dd_La_law_590 : decode code 590 = .ok (.if_icmp .eq (28), 3) := by decide +kernel
theorem dd_La_law_595 : decode code 595 = .ok (.aload_n 1, 1) := by decide +kernel
theorem dd_La_law_596 : decode code 596 = .ok (.aload_n 0, 1) := by decide +kernel
theorem dd_La_law_597 : decode code 597 = .ok (.iload_n 3, 1) := by decide +kernel
theorem dd_La_law_598 : decode code 598 = .ok (.iconst 1, 1) := by decide +kernel
theorem dd_La_law_599 : decode code 599 = .ok (.iadd, 1) := by decide +kernel
theorem dd_La_law_600 : decode code 600 = .ok (.iaload, 1) := by decide +kernel
theorem dd_La_law_601 : decode code 601 = .ok (.invokevirtual 97, 3) := by decide +kernel
theorem dd_La_law_604 : decode code 604 = .ok (.aload_n 2, 1) := by decide +kernel
theorem dd_La_law_605 : decode code 605 = .ok (.aload_n 0, 1) := by decide +kernel
theorem dd_La_law_606 : decode code 606 = .ok (.iload_n 3, 1) := by decide +kernel
theorem dd_La_law_607 : decode code 607 = .ok (.iconst 1, 1) := by decide +kernel
theorem dd_La_law_608 : decode code 608 = .ok (.iadd, 1) := by decide +kernel
theorem dd_La_law_609 : decode code 609 = .ok (.iaload, 1) := by decide +kernel
theorem dd_La_law_610 : decode code 610 = .ok (.invokevirtual 100, 3) := by decide +kernel
theorem dd_La_law_613 : decode code 613 = .ok (.if_icmp .eq (5), 3) := by decide +kernel
theorem dd_La_law_618 : decode code 618 = .ok (.iinc 3 (6), 3) := by decide +kernel
theorem dd_La_law_621 : decode code 621 = .ok (.goto (-593), 3) := by decide +kernel
theorem dd_La_law_624 : decode code 624 = .ok (.iconst 1, 1) := by decide +kernel
theorem dd_La_law_625 : decode code 625 = .ok (.ireturn, 1) := by decide +kernel

