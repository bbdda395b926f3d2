theorem dX12_init_0 : decode cX12_init 0 = .ok (.aload_n 0, 1) := by decide +kernel
theorem dX12_init_1 : decode cX12_init 1 = .ok (.invokespecial 1, 3) := by decide +kernel
theorem dX12_init_4 : decode cX12_init 4 = .ok (.aload_n 0, 1) := by decide +kernel
theorem dX12_init_5 : decode cX12_init 5 = .ok (.bipush 30, 2) := by decide +kernel
theorem dX12_init_7 : decode cX12_init 7 = .ok (.newarray .int, 2) := by decide +kernel
theorem dX12_init_9 : decode cX12_init 9 = .ok (.putfield 7, 3) := by decide +kernel
theorem dX12_init_12 : decode cX12_init 12 = .ok (.aload_n 0, 1) := by decide +kernel
theorem dX12_init_13 : decode cX12_init 13 = .ok (.bipush 30, 2) := by decide +kernel
theorem dX12_init_15 : decode cX12_init 15 = .ok (.newarray .int, 2) := by decide +kernel
theorem dX12_init_17 : decode cX12_init 17 = .ok (.putfield 13, 3) := by decide +kernel
theorem dX12_init_20 : decode cX12_init 20 = .ok (.aload_n 0, 1) := by decide +kernel
theorem dX12_init_21 : decode cX12_init 21 = .ok (.bipush 30, 2) := by decide +kernel
theorem dX12_init_23 : decode cX12_init 23 = .ok (.newarray .int, 2) := by decide +kernel
theorem dX12_init_25 : decode cX12_init 25 = .ok (.putfield 16, 3) := by decide +kernel
theorem dX12_init_28 : decode cX12_init 28 = .ok (.aload_n 0, 1) := by decide +kernel
theorem dX12_init_29 : decode cX12_init 29 = .ok (.bipush 30, 2) := by decide +kernel
theorem dX12_init_31 : decode cX12_init 31 = .ok (.newarray .int, 2) := by decide +kernel
theorem dX12_init_33 : decode cX12_init 33 = .ok (.putfield 19, 3) := by decide +kernel
theorem dX12_init_36 : decode cX12_init 36 = .ok (.aload_n 0, 1) := by decide +kernel
theorem dX12_init_37 : decode cX12_init 37 = .ok (.bipush 30, 2) := by decide +kernel
theorem dX12_init_39 : decode cX12_init 39 = .ok (.newarray .int, 2) := by decide +kernel
theorem dX12_init_41 : decode cX12_init 41 = .ok (.putfield 22, 3) := by decide +kernel
theorem dX12_init_44 : decode cX12_init 44 = .ok (.aload_n 0, 1) := by decide +kernel
theorem dX12_init_45 : decode cX12_init 45 = .ok (.bipush 30, 2) := by decide +kernel
theorem dX12_init_47 : decode cX12_init 47 = .ok (.newarray .int, 2) := by decide +kernel
theorem dX12_init_49 : decode cX12_init 49 = .ok (.putfield 25, 3) := by decide +kernel
theorem dX12_init_52 : decode cX12_init 52 = .ok (.aload_n 0, 1) := by decide +kernel
theorem dX12_init_53 : decode cX12_init 53 = .ok (.bipush 30, 2) := by decide +kernel
theorem dX12_init_55 : decode cX12_init 55 = .ok (.newarray .int, 2) := by decide +kernel
theorem dX12_init_57 : decode cX12_init 57 = .ok (.putfield 28, 3) := by decide +kernel
theorem dX12_init_60 : decode cX12_init 60 = .ok (.aload_n 0, 1) := by decide +kernel
theorem dX12_init_61 : decode cX12_init 61 = .ok (.bipush 30, 2) := by decide +kernel
theorem dX12_init_63 : decode cX12_init 63 = .ok (.newarray .boolean, 2) := by decide +kernel
theorem dX12_init_65 : decode cX12_init 65 = .ok (.putfield 31, 3) := by decide +kernel
theorem dX12_init_68 : decode cX12_init 68 = .ok (.aload_n 0, 1) := by decide +kernel
theorem dX12_init_69 : decode cX12_init 69 = .ok (.iconst 3, 1) := by decide +kernel
theorem dX12_init_70 : decode cX12_init 70 = .ok (.newarray .int, 2) := by decide +kernel
theorem dX12_init_72 : decode cX12_init 72 = .ok (.putfield 35, 3) := by decide +kernel
theorem dX12_init_75 : decode cX12_init 75 = .ok (.aload_n 0, 1) := by decide +kernel
theorem dX12_init_76 : decode cX12_init 76 = .ok (.bipush 6, 2) := by decide +kernel
theorem dX12_init_78 : decode cX12_init 78 = .ok (.newarray .int, 2) := by decide +kernel
theorem dX12_init_80 : decode cX12_init 80 = .ok (.putfield 38, 3) := by decide +kernel
theorem dX12_init_83 : decode cX12_init 83 = .ok (.aload_n 0, 1) := by decide +kernel
theorem dX12_init_84 : decode cX12_init 84 = .ok (.bipush 10, 2) := by decide +kernel
theorem dX12_init_86 : decode cX12_init 86 = .ok (.newarray .int, 2) := by decide +kernel
theorem dX12_init_88 : decode cX12_init 88 = .ok (.putfield 41, 3) := by decide +kernel
theorem dX12_init_91 : decode cX12_init 91 = .ok (.aload_n 0, 1) := by decide +kernel
theorem dX12_init_92 : decode cX12_init 92 = .ok (.bipush 60, 2) := by decide +kernel
theorem dX12_init_94 : decode cX12_init 94 = .ok (.newarray .int, 2) := by decide +kernel
theorem dX12_init_96 : decode cX12_init 96 = .ok (.putfield 44, 3) := by decide +kernel
theorem dX12_init_99 : decode cX12_init 99 = .ok (.aload_n 0, 1) := by decide +kernel
theorem dX12_init_100 : decode cX12_init 100 = .ok (.bipush 24, 2) := by decide +kernel
theorem dX12_init_102 : decode cX12_init 102 = .ok (.newarray .int, 2) := by decide +kernel
theorem dX12_init_104 : decode cX12_init 104 = .ok (.putfield 47, 3) := by decide +kernel
theorem dX12_init_107 : decode cX12_init 107 = .ok (.aload_n 0, 1) := by decide +kernel
theorem dX12_init_108 : decode cX12_init 108 = .ok (.bipush 9, 2) := by decide +kernel
theorem dX12_init_110 : decode cX12_init 110 = .ok (.newarray .int, 2) := by decide +kernel
theorem dX12_init_112 : decode cX12_init 112 = .ok (.putfield 50, 3) := by decide +kernel
theorem dX12_init_115 : decode cX12_init 115 = .ok (.aload_n 0, 1) := by decide +kernel
theorem dX12_init_116 : decode cX12_init 116 = .ok (.iconst 3, 1) := by decide +kernel
theorem dX12_init_117 : decode cX12_init 117 = .ok (.newarray .boolean, 2) := by decide +kernel
theorem dX12_init_119 : decode cX12_init 119 = .ok (.putfield 53, 3) := by decide +kernel
theorem dX12_init_122 : decode cX12_init 122 = .ok (.aload_n 0, 1) := by decide +kernel
theorem dX12_init_123 : decode cX12_init 123 = .ok (.iconst 3, 1) := by decide +kernel
theorem dX12_init_124 : decode cX12_init 124 = .ok (.newarray .boolean, 2) := by decide +kernel
theorem dX12_init_126 : decode cX12_init 126 = .ok (.putfield 56, 3) := by decide +kernel
theorem dX12_init_129 : decode cX12_init 129 = .ok (.aload_n 0, 1) := by decide +kernel
theorem dX12_init_130 : decode cX12_init 130 = .ok (.iconst 3, 1) := by decide +kernel
theorem dX12_init_131 : decode cX12_init 131 = .ok (.newarray .int, 2) := by decide +kernel
theorem dX12_init_133 : decode cX12_init 133 = .ok (.putfield 59, 3) := by decide +kernel
theorem dX12_init_136 : decode cX12_init 136 = .ok (.aload_n 0, 1) := by decide +kernel
theorem dX12_init_137 : decode cX12_init 137 = .ok (.iconst 4, 1) := by decide +kernel
theorem dX12_init_138 : decode cX12_init 138 = .ok (.newarray .int, 2) := by decide +kernel
theorem dX12_init_140 : decode cX12_init 140 = .ok (.putfield 62, 3) := by decide +kernel
theorem dX12_init_143 : decode cX12_init 143 = .ok (.aload_n 0, 1) := by decide +kernel
theorem dX12_init_144 : decode cX12_init 144 = .ok (.iconst 4, 1) := by decide +kernel
theorem dX12_init_145 : decode cX12_init 145 = .ok (.newarray .int, 2) := by decide +kernel
theorem dX12_init_147 : decode cX12_init 147 = .ok (.putfield 65, 3) := by decide +kernel
theorem dX12_init_150 : decode cX12_init 150 = .ok (.aload_n 0, 1) := by decide +kernel
theorem dX12_init_151 : decode cX12_init 151 = .ok (.bipush 32, 2) := by decide +kernel
theorem dX12_init_153 : decode cX12_init 153 = .ok (.newarray .int, 2) := by decide +kernel
theorem dX12_init_155 : decode cX12_init 155 = .ok (.putfield 68, 3) := by decide +kernel
theorem dX12_init_158 : decode cX12_init 158 = .ok (.aload_n 0, 1) := by decide +kernel
theorem dX12_init_159 : decode cX12_init 159 = .ok (.bipush 12, 2) := by decide +kernel
theorem dX12_init_161 : decode cX12_init 161 = .ok (.newarray .int, 2) := by decide +kernel
theorem dX12_init_163 : decode cX12_init 163 = .ok (.putfield 71, 3) := by decide +kernel
theorem dX12_init_166 : decode cX12_init 166 = .ok (.aload_n 0, 1) := by decide +kernel
theorem dX12_init_167 : decode cX12_init 167 = .ok (.bipush 60, 2) := by decide +kernel
theorem dX12_init_169 : decode cX12_init 169 = .ok (.newarray .int, 2) := by decide +kernel
theorem dX12_init_171 : decode cX12_init 171 = .ok (.putfield 74, 3) := by decide +kernel
theorem dX12_init_174 : decode cX12_init 174 = .ok (.aload_n 0, 1) := by decide +kernel
theorem dX12_init_175 : decode cX12_init 175 = .ok (.sipush 180, 3) := by decide +kernel
theorem dX12_init_178 : decode cX12_init 178 = .ok (.newarray .int, 2) := by decide +kernel
theorem dX12_init_180 : decode cX12_init 180 = .ok (.putfield 77, 3) := by decide +kernel
theorem dX12_init_183 : decode cX12_init 183 = .ok (.aload_n 0, 1) := by decide +kernel
theorem dX12_init_184 : decode cX12_init 184 = .ok (.bipush 60, 2) := by decide +kernel
theorem dX12_init_186 : decode cX12_init 186 = .ok (.newarray .boolean, 2) := by decide +kernel
theorem dX12_init_188 : decode cX12_init 188 = .ok (.putfield 80, 3) := by decide +kernel
theorem dX12_init_191 : decode cX12_init 191 = .ok (.aload_n 0, 1) := by decide +kernel
theorem dX12_init_192 : decode cX12_init 192 = .ok (.bipush 64, 2) := by decide +kernel
theorem dX12_init_194 : decode cX12_init 194 = .ok (.newarray .int, 2) := by decide +kernel
theorem dX12_init_196 : decode cX12_init 196 = .ok (.putfield 83, 3) := by decide +kernel
theorem dX12_init_199 : decode cX12_init 199 = .ok (.aload_n 0, 1) := by decide +kernel
theorem dX12_init_200 : decode cX12_init 200 = .ok (.sipush 192, 3) := by decide +kernel
theorem dX12_init_203 : decode cX12_init 203 = .ok (.newarray .int, 2) := by decide +kernel
theorem dX12_init_205 : decode cX12_init 205 = .ok (.putfield 86, 3) := by decide +kernel
theorem dX12_init_208 : decode cX12_init 208 = .ok (.aload_n 0, 1) := by decide +kernel
theorem dX12_init_209 : decode cX12_init 209 = .ok (.bipush 64, 2) := by decide +kernel
theorem dX12_init_211 : decode cX12_init 211 = .ok (.newarray .boolean, 2) := by decide +kernel
theorem dX12_init_213 : decode cX12_init 213 = .ok (.putfield 89, 3) := by decide +kernel
theorem dX12_init_216 : decode cX12_init 216 = .ok (.aload_n 0, 1) := by decide +kernel
theorem dX12_init_217 : decode cX12_init 217 = .ok (.bipush 64, 2) := by decide +kernel
theorem dX12_init_219 : decode cX12_init 219 = .ok (.newarray .int, 2) := by decide +kernel
theorem dX12_init_221 : decode cX12_init 221 = .ok (.putfield 92, 3) := by decide +kernel
theorem dX12_init_224 : decode cX12_init 224 = .ok (.aload_n 0, 1) := by decide +kernel
theorem dX12_init_225 : decode cX12_init 225 = .ok (.sipush 192, 3) := by decide +kernel
theorem dX12_init_228 : decode cX12_init 228 = .ok (.newarray .int, 2) := by decide +kernel
theorem dX12_init_230 : decode cX12_init 230 = .ok (.putfield 95, 3) := by decide +kernel
theorem dX12_init_233 : decode cX12_init 233 = .ok (.aload_n 0, 1) := by decide +kernel
theorem dX12_init_234 : decode cX12_init 234 = .ok (.bipush 64, 2) := by decide +kernel
theorem dX12_init_236 : decode cX12_init 236 = .ok (.newarray .int, 2) := by decide +kernel
theorem dX12_init_238 : decode cX12_init 238 = .ok (.putfield 98, 3) := by decide +kernel
theorem dX12_init_241 : decode cX12_init 241 = .ok (.aload_n 0, 1) := by decide +kernel
theorem dX12_init_242 : decode cX12_init 242 = .ok (.bipush 40, 2) := by decide +kernel
theorem dX12_init_244 : decode cX12_init 244 = .ok (.newarray .int, 2) := by decide +kernel
theorem dX12_init_246 : decode cX12_init 246 = .ok (.putfield 101, 3) := by decide +kernel
theorem dX12_init_249 : decode cX12_init 249 = .ok (.aload_n 0, 1) := by decide +kernel
theorem dX12_init_250 : decode cX12_init 250 = .ok (.bipush 40, 2) := by decide +kernel
theorem dX12_init_252 : decode cX12_init 252 = .ok (.newarray .int, 2) := by decide +kernel
theorem dX12_init_254 : decode cX12_init 254 = .ok (.putfield 104, 3) := by decide +kernel
theorem dX12_init_257 : decode cX12_init 257 = .ok (.aload_n 0, 1) := by decide +kernel
theorem dX12_init_258 : decode cX12_init 258 = .ok (.bipush 40, 2) := by decide +kernel
theorem dX12_init_260 : decode cX12_init 260 = .ok (.newarray .boolean, 2) := by decide +kernel
theorem dX12_init_262 : decode cX12_init 262 = .ok (.putfield 107, 3) := by decide +kernel
theorem dX12_init_265 : decode cX12_init 265 = .ok (.aload_n 0, 1) := by decide +kernel
theorem dX12_init_266 : decode cX12_init 266 = .ok (.bipush 40, 2) := by decide +kernel
theorem dX12_init_268 : decode cX12_init 268 = .ok (.newarray .boolean, 2) := by decide +kernel
theorem dX12_init_270 : decode cX12_init 270 = .ok (.putfield 110, 3) := by decide +kernel
theorem dX12_init_273 : decode cX12_init 273 = .ok (.aload_n 0, 1) := by decide +kernel
theorem dX12_init_274 : decode cX12_init 274 = .ok (.bipush 40, 2) := by decide +kernel
theorem dX12_init_276 : decode cX12_init 276 = .ok (.newarray .int, 2) := by decide +kernel
theorem dX12_init_278 : decode cX12_init 278 = .ok (.putfield 113, 3) := by decide +kernel
theorem dX12_init_281 : decode cX12_init 281 = .ok (.aload_n 0, 1) := by decide +kernel
theorem dX12_init_282 : decode cX12_init 282 = .ok (.sipush 5120, 3) := by decide +kernel
theorem dX12_init_285 : decode cX12_init 285 = .ok (.newarray .int, 2) := by decide +kernel
theorem dX12_init_287 : decode cX12_init 287 = .ok (.putfield 116, 3) := by decide +kernel
theorem dX12_init_290 : decode cX12_init 290 = .ok (.aload_n 0, 1) := by decide +kernel
theorem dX12_init_291 : decode cX12_init 291 = .ok (.iconst (-1), 1) := by decide +kernel
theorem dX12_init_292 : decode cX12_init 292 = .ok (.putfield 119, 3) := by decide +kernel
theorem dX12_init_295 : decode cX12_init 295 = .ok (.aload_n 0, 1) := by decide +kernel
theorem dX12_init_296 : decode cX12_init 296 = .ok (.iconst (-1), 1) := by decide +kernel
theorem dX12_init_297 : decode cX12_init 297 = .ok (.putfield 123, 3) := by decide +kernel
theorem dX12_init_300 : decode cX12_init 300 = .ok (.aload_n 0, 1) := by decide +kernel
theorem dX12_init_301 : decode cX12_init 301 = .ok (.bipush 64, 2) := by decide +kernel
theorem dX12_init_303 : decode cX12_init 303 = .ok (.newarray .boolean, 2) := by decide +kernel
theorem dX12_init_305 : decode cX12_init 305 = .ok (.putfield 126, 3) := by decide +kernel
theorem dX12_init_308 : decode cX12_init 308 = .ok (.aload_n 0, 1) := by decide +kernel
theorem dX12_init_309 : decode cX12_init 309 = .ok (.bipush 64, 2) := by decide +kernel
theorem dX12_init_311 : decode cX12_init 311 = .ok (.newarray .int, 2) := by decide +kernel
theorem dX12_init_313 : decode cX12_init 313 = .ok (.putfield 129, 3) := by decide +kernel
theorem dX12_init_316 : decode cX12_init 316 = .ok (.aload_n 0, 1) := by decide +kernel
theorem dX12_init_317 : decode cX12_init 317 = .ok (.bipush 9, 2) := by decide +kernel
theorem dX12_init_319 : decode cX12_init 319 = .ok (.newarray .boolean, 2) := by decide +kernel
theorem dX12_init_321 : decode cX12_init 321 = .ok (.putfield 132, 3) := by decide +kernel
theorem dX12_init_324 : decode cX12_init 324 = .ok (.aload_n 0, 1) := by decide +kernel
theorem dX12_init_325 : decode cX12_init 325 = .ok (.bipush 30, 2) := by decide +kernel
theorem dX12_init_327 : decode cX12_init 327 = .ok (.newarray .boolean, 2) := by decide +kernel
theorem dX12_init_329 : decode cX12_init 329 = .ok (.putfield 135, 3) := by decide +kernel
theorem dX12_init_332 : decode cX12_init 332 = .ok (.aload_n 0, 1) := by decide +kernel
theorem dX12_init_333 : decode cX12_init 333 = .ok (.bipush 30, 2) := by decide +kernel
theorem dX12_init_335 : decode cX12_init 335 = .ok (.newarray .int, 2) := by decide +kernel
theorem dX12_init_337 : decode cX12_init 337 = .ok (.putfield 138, 3) := by decide +kernel
theorem dX12_init_340 : decode cX12_init 340 = .ok (.aload_n 0, 1) := by decide +kernel
theorem dX12_init_341 : decode cX12_init 341 = .ok (.bipush 30, 2) := by decide +kernel
theorem dX12_init_343 : decode cX12_init 343 = .ok (.newarray .int, 2) := by decide +kernel
theorem dX12_init_345 : decode cX12_init 345 = .ok (.putfield 141, 3) := by decide +kernel
theorem dX12_init_348 : decode cX12_init 348 = .ok (.aload_n 0, 1) := by decide +kernel
theorem dX12_init_349 : decode cX12_init 349 = .ok (.bipush 30, 2) := by decide +kernel
theorem dX12_init_351 : decode cX12_init 351 = .ok (.newarray .boolean, 2) := by decide +kernel
theorem dX12_init_353 : decode cX12_init 353 = .ok (.putfield 144, 3) := by decide +kernel
theorem dX12_init_356 : decode cX12_init 356 = .ok (.aload_n 0, 1) := by decide +kernel
theorem dX12_init_357 : decode cX12_init 357 = .ok (.bipush 10, 2) := by decide +kernel
theorem dX12_init_359 : decode cX12_init 359 = .ok (.newarray .long, 2) := by decide +kernel
theorem dX12_init_361 : decode cX12_init 361 = .ok (.putfield 147, 3) := by decide +kernel
theorem dX12_init_364 : decode cX12_init 364 = .ok (.aload_n 0, 1) := by decide +kernel
theorem dX12_init_365 : decode cX12_init 365 = .ok (.bipush 10, 2) := by decide +kernel
theorem dX12_init_367 : decode cX12_init 367 = .ok (.newarray .long, 2) := by decide +kernel
theorem dX12_init_369 : decode cX12_init 369 = .ok (.putfield 151, 3) := by decide +kernel
theorem dX12_init_372 : decode cX12_init 372 = .ok (.aload_n 0, 1) := by decide +kernel
theorem dX12_init_373 : decode cX12_init 373 = .ok (.bipush 10, 2) := by decide +kernel
theorem dX12_init_375 : decode cX12_init 375 = .ok (.newarray .long, 2) := by decide +kernel
theorem dX12_init_377 : decode cX12_init 377 = .ok (.putfield 154, 3) := by decide +kernel
theorem dX12_init_380 : decode cX12_init 380 = .ok (.aload_n 0, 1) := by decide +kernel
theorem dX12_init_381 : decode cX12_init 381 = .ok (.bipush 64, 2) := by decide +kernel
theorem dX12_init_383 : decode cX12_init 383 = .ok (.newarray .int, 2) := by decide +kernel
theorem dX12_init_385 : decode cX12_init 385 = .ok (.putfield 157, 3) := by decide +kernel
theorem dX12_init_388 : decode cX12_init 388 = .ok (.aload_n 0, 1) := by decide +kernel
theorem dX12_init_389 : decode cX12_init 389 = .ok (.sipush 128, 3) := by decide +kernel
theorem dX12_init_392 : decode cX12_init 392 = .ok (.newarray .int, 2) := by decide +kernel
theorem dX12_init_394 : decode cX12_init 394 = .ok (.putfield 160, 3) := by decide +kernel
theorem dX12_init_397 : decode cX12_init 397 = .ok (.aload_n 0, 1) := by decide +kernel
theorem dX12_init_398 : decode cX12_init 398 = .ok (.bipush 30, 2) := by decide +kernel
theorem dX12_init_400 : decode cX12_init 400 = .ok (.newarray .boolean, 2) := by decide +kernel
theorem dX12_init_402 : decode cX12_init 402 = .ok (.putfield 163, 3) := by decide +kernel
theorem dX12_init_405 : decode cX12_init 405 = .ok (.iconst 0, 1) := by decide +kernel
theorem dX12_init_406 : decode cX12_init 406 = .ok (.istore_n 1, 1) := by decide +kernel
theorem dX12_init_407 : decode cX12_init 407 = .ok (.iload_n 1, 1) := by decide +kernel
theorem dX12_init_408 : decode cX12_init 408 = .ok (.bipush 12, 2) := by decide +kernel
theorem dX12_init_410 : decode cX12_init 410 = .ok (.if_icmp .ge 16, 3) := by decide +kernel
theorem dX12_init_413 : decode cX12_init 413 = .ok (.aload_n 0, 1) := by decide +kernel
theorem dX12_init_414 : decode cX12_init 414 = .ok (.getfield 71, 3) := by decide +kernel
theorem dX12_init_417 : decode cX12_init 417 = .ok (.iload_n 1, 1) := by decide +kernel
theorem dX12_init_418 : decode cX12_init 418 = .ok (.iconst (-1), 1) := by decide +kernel
theorem dX12_init_419 : decode cX12_init 419 = .ok (.iastore, 1) := by decide +kernel
theorem dX12_init_420 : decode cX12_init 420 = .ok (.iinc 1 1, 3) := by decide +kernel
theorem dX12_init_423 : decode cX12_init 423 = .ok (.goto (-16), 3) := by decide +kernel
theorem dX12_init_426 : decode cX12_init 426 = .ok (.return_, 1) := by decide +kernel
theorem dX12_thrown_0 : decode cX12_thrown 0 = .ok (.aload_n 0, 1) := by decide +kernel
theorem dX12_thrown_1 : decode cX12_thrown 1 = .ok (.getfield 166, 3) := by decide +kernel
theorem dX12_thrown_4 : decode cX12_thrown 4 = .ok (.ireturn, 1) := by decide +kernel
theorem dX12_isIn_0 : decode cX12_isIn 0 = .ok (.iload_n 0, 1) := by decide +kernel
theorem dX12_isIn_1 : decode cX12_isIn 1 = .ok (.iload_n 1, 1) := by decide +kernel
theorem dX12_isIn_2 : decode cX12_isIn 2 = .ok (.if_icmp .lt 12, 3) := by decide +kernel
theorem dX12_isIn_5 : decode cX12_isIn 5 = .ok (.iload_n 0, 1) := by decide +kernel
theorem dX12_isIn_6 : decode cX12_isIn 6 = .ok (.iload_n 2, 1) := by decide +kernel
theorem dX12_isIn_7 : decode cX12_isIn 7 = .ok (.if_icmp .gt 7, 3) := by decide +kernel
theorem dX12_isIn_10 : decode cX12_isIn 10 = .ok (.iconst 1, 1) := by decide +kernel
theorem dX12_isIn_11 : decode cX12_isIn 11 = .ok (.goto 4, 3) := by decide +kernel
theorem dX12_isIn_14 : decode cX12_isIn 14 = .ok (.iconst 0, 1) := by decide +kernel
theorem dX12_isIn_15 : decode cX12_isIn 15 = .ok (.ireturn, 1) := by decide +kernel
theorem dX12_isField_0 : decode cX12_isField 0 = .ok (.iload_n 0, 1) := by decide +kernel
theorem dX12_isField_1 : decode cX12_isField 1 = .ok (.iconst 0, 1) := by decide +kernel
theorem dX12_isField_2 : decode cX12_isField 2 = .ok (.bipush 9, 2) := by decide +kernel
theorem dX12_isField_4 : decode cX12_isField 4 = .ok (.invokestatic 169, 3) := by decide +kernel
theorem dX12_isField_7 : decode cX12_isField 7 = .ok (.ireturn, 1) := by decide +kernel
theorem dX12_isPair_0 : decode cX12_isPair 0 = .ok (.iload_n 0, 1) := by decide +kernel
theorem dX12_isPair_1 : decode cX12_isPair 1 = .ok (.iconst 5, 1) := by decide +kernel
theorem dX12_isPair_2 : decode cX12_isPair 2 = .ok (.if_icmp .eq 9, 3) := by decide +kernel
theorem dX12_isPair_5 : decode cX12_isPair 5 = .ok (.iload_n 0, 1) := by decide +kernel
theorem dX12_isPair_6 : decode cX12_isPair 6 = .ok (.bipush 6, 2) := by decide +kernel
theorem dX12_isPair_8 : decode cX12_isPair 8 = .ok (.if_icmp .ne 7, 3) := by decide +kernel
theorem dX12_isPair_11 : decode cX12_isPair 11 = .ok (.iconst 1, 1) := by decide +kernel
theorem dX12_isPair_12 : decode cX12_isPair 12 = .ok (.goto 4, 3) := by decide +kernel
theorem dX12_isPair_15 : decode cX12_isPair 15 = .ok (.iconst 0, 1) := by decide +kernel
theorem dX12_isPair_16 : decode cX12_isPair 16 = .ok (.ireturn, 1) := by decide +kernel
theorem dX12_isRange_0 : decode cX12_isRange 0 = .ok (.iload_n 0, 1) := by decide +kernel
theorem dX12_isRange_1 : decode cX12_isRange 1 = .ok (.tableswitch 177 0 12 #[67, 87, 113, 67, 67, 139, 148, 67, 177, 177, 177, 177, 158], 67) := by decide +kernel
theorem dX12_isRange_68 : decode cX12_isRange 68 = .ok (.iload_n 1, 1) := by decide +kernel
theorem dX12_isRange_69 : decode cX12_isRange 69 = .ok (.iconst 0, 1) := by decide +kernel
theorem dX12_isRange_70 : decode cX12_isRange 70 = .ok (.bipush 63, 2) := by decide +kernel
theorem dX12_isRange_72 : decode cX12_isRange 72 = .ok (.invokestatic 169, 3) := by decide +kernel
theorem dX12_isRange_75 : decode cX12_isRange 75 = .ok (.ifCond .eq 11, 3) := by decide +kernel
theorem dX12_isRange_78 : decode cX12_isRange 78 = .ok (.iload_n 2, 1) := by decide +kernel
theorem dX12_isRange_79 : decode cX12_isRange 79 = .ok (.ifCond .ne 7, 3) := by decide +kernel
theorem dX12_isRange_82 : decode cX12_isRange 82 = .ok (.iconst 1, 1) := by decide +kernel
theorem dX12_isRange_83 : decode cX12_isRange 83 = .ok (.goto 4, 3) := by decide +kernel
theorem dX12_isRange_86 : decode cX12_isRange 86 = .ok (.iconst 0, 1) := by decide +kernel
theorem dX12_isRange_87 : decode cX12_isRange 87 = .ok (.ireturn, 1) := by decide +kernel
theorem dX12_isRange_88 : decode cX12_isRange 88 = .ok (.iload_n 1, 1) := by decide +kernel
theorem dX12_isRange_89 : decode cX12_isRange 89 = .ok (.iconst 0, 1) := by decide +kernel
theorem dX12_isRange_90 : decode cX12_isRange 90 = .ok (.bipush 63, 2) := by decide +kernel
theorem dX12_isRange_92 : decode cX12_isRange 92 = .ok (.invokestatic 169, 3) := by decide +kernel
theorem dX12_isRange_95 : decode cX12_isRange 95 = .ok (.ifCond .eq 17, 3) := by decide +kernel
theorem dX12_isRange_98 : decode cX12_isRange 98 = .ok (.iload_n 2, 1) := by decide +kernel
theorem dX12_isRange_99 : decode cX12_isRange 99 = .ok (.iload_n 1, 1) := by decide +kernel
theorem dX12_isRange_100 : decode cX12_isRange 100 = .ok (.bipush 63, 2) := by decide +kernel
theorem dX12_isRange_102 : decode cX12_isRange 102 = .ok (.invokestatic 169, 3) := by decide +kernel
theorem dX12_isRange_105 : decode cX12_isRange 105 = .ok (.ifCond .eq 7, 3) := by decide +kernel
theorem dX12_isRange_108 : decode cX12_isRange 108 = .ok (.iconst 1, 1) := by decide +kernel
theorem dX12_isRange_109 : decode cX12_isRange 109 = .ok (.goto 4, 3) := by decide +kernel
theorem dX12_isRange_112 : decode cX12_isRange 112 = .ok (.iconst 0, 1) := by decide +kernel
theorem dX12_isRange_113 : decode cX12_isRange 113 = .ok (.ireturn, 1) := by decide +kernel
theorem dX12_isRange_114 : decode cX12_isRange 114 = .ok (.iload_n 1, 1) := by decide +kernel
theorem dX12_isRange_115 : decode cX12_isRange 115 = .ok (.iconst 0, 1) := by decide +kernel
theorem dX12_isRange_116 : decode cX12_isRange 116 = .ok (.bipush 63, 2) := by decide +kernel
theorem dX12_isRange_118 : decode cX12_isRange 118 = .ok (.invokestatic 169, 3) := by decide +kernel
theorem dX12_isRange_121 : decode cX12_isRange 121 = .ok (.ifCond .eq 17, 3) := by decide +kernel
theorem dX12_isRange_124 : decode cX12_isRange 124 = .ok (.iload_n 2, 1) := by decide +kernel
theorem dX12_isRange_125 : decode cX12_isRange 125 = .ok (.iconst 0, 1) := by decide +kernel
theorem dX12_isRange_126 : decode cX12_isRange 126 = .ok (.bipush 63, 2) := by decide +kernel
theorem dX12_isRange_128 : decode cX12_isRange 128 = .ok (.invokestatic 169, 3) := by decide +kernel
theorem dX12_isRange_131 : decode cX12_isRange 131 = .ok (.ifCond .eq 7, 3) := by decide +kernel
theorem dX12_isRange_134 : decode cX12_isRange 134 = .ok (.iconst 1, 1) := by decide +kernel
theorem dX12_isRange_135 : decode cX12_isRange 135 = .ok (.goto 4, 3) := by decide +kernel
theorem dX12_isRange_138 : decode cX12_isRange 138 = .ok (.iconst 0, 1) := by decide +kernel
theorem dX12_isRange_139 : decode cX12_isRange 139 = .ok (.ireturn, 1) := by decide +kernel
theorem dX12_isRange_140 : decode cX12_isRange 140 = .ok (.iload_n 2, 1) := by decide +kernel
theorem dX12_isRange_141 : decode cX12_isRange 141 = .ok (.bipush (-63), 2) := by decide +kernel
theorem dX12_isRange_143 : decode cX12_isRange 143 = .ok (.bipush 63, 2) := by decide +kernel
theorem dX12_isRange_145 : decode cX12_isRange 145 = .ok (.invokestatic 169, 3) := by decide +kernel
theorem dX12_isRange_148 : decode cX12_isRange 148 = .ok (.ireturn, 1) := by decide +kernel
theorem dX12_isRange_149 : decode cX12_isRange 149 = .ok (.iload_n 2, 1) := by decide +kernel
theorem dX12_isRange_150 : decode cX12_isRange 150 = .ok (.ifCond .ne 7, 3) := by decide +kernel
theorem dX12_isRange_153 : decode cX12_isRange 153 = .ok (.iconst 1, 1) := by decide +kernel
theorem dX12_isRange_154 : decode cX12_isRange 154 = .ok (.goto 4, 3) := by decide +kernel
theorem dX12_isRange_157 : decode cX12_isRange 157 = .ok (.iconst 0, 1) := by decide +kernel
theorem dX12_isRange_158 : decode cX12_isRange 158 = .ok (.ireturn, 1) := by decide +kernel
theorem dX12_isRange_159 : decode cX12_isRange 159 = .ok (.iload_n 1, 1) := by decide +kernel
theorem dX12_isRange_160 : decode cX12_isRange 160 = .ok (.iconst 1, 1) := by decide +kernel
theorem dX12_isRange_161 : decode cX12_isRange 161 = .ok (.iconst 3, 1) := by decide +kernel
theorem dX12_isRange_162 : decode cX12_isRange 162 = .ok (.invokestatic 169, 3) := by decide +kernel
theorem dX12_isRange_165 : decode cX12_isRange 165 = .ok (.ifCond .eq 11, 3) := by decide +kernel
theorem dX12_isRange_168 : decode cX12_isRange 168 = .ok (.iload_n 2, 1) := by decide +kernel
theorem dX12_isRange_169 : decode cX12_isRange 169 = .ok (.ifCond .ne 7, 3) := by decide +kernel
theorem dX12_isRange_172 : decode cX12_isRange 172 = .ok (.iconst 1, 1) := by decide +kernel
theorem dX12_isRange_173 : decode cX12_isRange 173 = .ok (.goto 4, 3) := by decide +kernel
theorem dX12_isRange_176 : decode cX12_isRange 176 = .ok (.iconst 0, 1) := by decide +kernel
theorem dX12_isRange_177 : decode cX12_isRange 177 = .ok (.ireturn, 1) := by decide +kernel
theorem dX12_isRange_178 : decode cX12_isRange 178 = .ok (.iload_n 0, 1) := by decide +kernel
theorem dX12_isRange_179 : decode cX12_isRange 179 = .ok (.bipush 8, 2) := by decide +kernel
theorem dX12_isRange_181 : decode cX12_isRange 181 = .ok (.bipush 11, 2) := by decide +kernel
theorem dX12_isRange_183 : decode cX12_isRange 183 = .ok (.invokestatic 169, 3) := by decide +kernel
theorem dX12_isRange_186 : decode cX12_isRange 186 = .ok (.ifCond .eq 15, 3) := by decide +kernel
theorem dX12_isRange_189 : decode cX12_isRange 189 = .ok (.iload_n 1, 1) := by decide +kernel
theorem dX12_isRange_190 : decode cX12_isRange 190 = .ok (.ifCond .ne 11, 3) := by decide +kernel
theorem dX12_isRange_193 : decode cX12_isRange 193 = .ok (.iload_n 2, 1) := by decide +kernel
theorem dX12_isRange_194 : decode cX12_isRange 194 = .ok (.ifCond .ne 7, 3) := by decide +kernel
theorem dX12_isRange_197 : decode cX12_isRange 197 = .ok (.iconst 1, 1) := by decide +kernel
theorem dX12_isRange_198 : decode cX12_isRange 198 = .ok (.goto 4, 3) := by decide +kernel
theorem dX12_isRange_201 : decode cX12_isRange 201 = .ok (.iconst 0, 1) := by decide +kernel
theorem dX12_isRange_202 : decode cX12_isRange 202 = .ok (.ireturn, 1) := by decide +kernel
theorem dX12_tells_0 : decode cX12_tells 0 = .ok (.iload_n 3, 1) := by decide +kernel
theorem dX12_tells_1 : decode cX12_tells 1 = .ok (.bipush 12, 2) := by decide +kernel
theorem dX12_tells_3 : decode cX12_tells 3 = .ok (.if_icmp .ne 16, 3) := by decide +kernel
theorem dX12_tells_6 : decode cX12_tells 6 = .ok (.iload 4, 2) := by decide +kernel
theorem dX12_tells_8 : decode cX12_tells 8 = .ok (.iconst 0, 1) := by decide +kernel
theorem dX12_tells_9 : decode cX12_tells 9 = .ok (.iconst 2, 1) := by decide +kernel
theorem dX12_tells_10 : decode cX12_tells 10 = .ok (.invokestatic 169, 3) := by decide +kernel
theorem dX12_tells_13 : decode cX12_tells 13 = .ok (.ifCond .eq 33, 3) := by decide +kernel
theorem dX12_tells_16 : decode cX12_tells 16 = .ok (.goto 11, 3) := by decide +kernel
theorem dX12_tells_19 : decode cX12_tells 19 = .ok (.iload 4, 2) := by decide +kernel
theorem dX12_tells_21 : decode cX12_tells 21 = .ok (.invokestatic 173, 3) := by decide +kernel
theorem dX12_tells_24 : decode cX12_tells 24 = .ok (.ifCond .eq 22, 3) := by decide +kernel
theorem dX12_tells_27 : decode cX12_tells 27 = .ok (.iload_n 3, 1) := by decide +kernel
theorem dX12_tells_28 : decode cX12_tells 28 = .ok (.invokestatic 177, 3) := by decide +kernel
theorem dX12_tells_31 : decode cX12_tells 31 = .ok (.ifCond .eq 11, 3) := by decide +kernel
theorem dX12_tells_34 : decode cX12_tells 34 = .ok (.iload 5, 2) := by decide +kernel
theorem dX12_tells_36 : decode cX12_tells 36 = .ok (.invokestatic 173, 3) := by decide +kernel
theorem dX12_tells_39 : decode cX12_tells 39 = .ok (.ifCond .eq 7, 3) := by decide +kernel
theorem dX12_tells_42 : decode cX12_tells 42 = .ok (.iconst 1, 1) := by decide +kernel
theorem dX12_tells_43 : decode cX12_tells 43 = .ok (.goto 4, 3) := by decide +kernel
theorem dX12_tells_46 : decode cX12_tells 46 = .ok (.iconst 0, 1) := by decide +kernel
theorem dX12_tells_47 : decode cX12_tells 47 = .ok (.istore 7, 2) := by decide +kernel
theorem dX12_tells_49 : decode cX12_tells 49 = .ok (.aload_n 0, 1) := by decide +kernel
theorem dX12_tells_50 : decode cX12_tells 50 = .ok (.iload 7, 2) := by decide +kernel
theorem dX12_tells_52 : decode cX12_tells 52 = .ok (.ifCond .ne 7, 3) := by decide +kernel
theorem dX12_tells_55 : decode cX12_tells 55 = .ok (.iconst 1, 1) := by decide +kernel
theorem dX12_tells_56 : decode cX12_tells 56 = .ok (.goto 32, 3) := by decide +kernel
theorem dX12_tells_59 : decode cX12_tells 59 = .ok (.iload_n 3, 1) := by decide +kernel
theorem dX12_tells_60 : decode cX12_tells 60 = .ok (.iload 5, 2) := by decide +kernel
theorem dX12_tells_62 : decode cX12_tells 62 = .ok (.iload 6, 2) := by decide +kernel
theorem dX12_tells_64 : decode cX12_tells 64 = .ok (.invokestatic 180, 3) := by decide +kernel
theorem dX12_tells_67 : decode cX12_tells 67 = .ok (.ifCond .ne 7, 3) := by decide +kernel
theorem dX12_tells_70 : decode cX12_tells 70 = .ok (.iconst 2, 1) := by decide +kernel
theorem dX12_tells_71 : decode cX12_tells 71 = .ok (.goto 17, 3) := by decide +kernel
theorem dX12_tells_74 : decode cX12_tells 74 = .ok (.aload_n 0, 1) := by decide +kernel
theorem dX12_tells_75 : decode cX12_tells 75 = .ok (.getfield 183, 3) := by decide +kernel
theorem dX12_tells_78 : decode cX12_tells 78 = .ok (.bipush 30, 2) := by decide +kernel
theorem dX12_tells_80 : decode cX12_tells 80 = .ok (.if_icmp .ne 7, 3) := by decide +kernel
theorem dX12_tells_83 : decode cX12_tells 83 = .ok (.iconst 3, 1) := by decide +kernel
theorem dX12_tells_84 : decode cX12_tells 84 = .ok (.goto 4, 3) := by decide +kernel
theorem dX12_tells_87 : decode cX12_tells 87 = .ok (.iconst 0, 1) := by decide +kernel
theorem dX12_tells_88 : decode cX12_tells 88 = .ok (.putfield 166, 3) := by decide +kernel
theorem dX12_tells_91 : decode cX12_tells 91 = .ok (.aload_n 0, 1) := by decide +kernel
theorem dX12_tells_92 : decode cX12_tells 92 = .ok (.getfield 166, 3) := by decide +kernel
theorem dX12_tells_95 : decode cX12_tells 95 = .ok (.ifCond .le 5, 3) := by decide +kernel
theorem dX12_tells_98 : decode cX12_tells 98 = .ok (.iconst 0, 1) := by decide +kernel
theorem dX12_tells_99 : decode cX12_tells 99 = .ok (.ireturn, 1) := by decide +kernel
theorem dX12_tells_100 : decode cX12_tells 100 = .ok (.aload_n 0, 1) := by decide +kernel
theorem dX12_tells_101 : decode cX12_tells 101 = .ok (.getfield 7, 3) := by decide +kernel
theorem dX12_tells_104 : decode cX12_tells 104 = .ok (.aload_n 0, 1) := by decide +kernel
theorem dX12_tells_105 : decode cX12_tells 105 = .ok (.getfield 183, 3) := by decide +kernel
theorem dX12_tells_108 : decode cX12_tells 108 = .ok (.iload_n 3, 1) := by decide +kernel
theorem dX12_tells_109 : decode cX12_tells 109 = .ok (.iastore, 1) := by decide +kernel
theorem dX12_tells_110 : decode cX12_tells 110 = .ok (.aload_n 0, 1) := by decide +kernel
theorem dX12_tells_111 : decode cX12_tells 111 = .ok (.getfield 13, 3) := by decide +kernel
theorem dX12_tells_114 : decode cX12_tells 114 = .ok (.aload_n 0, 1) := by decide +kernel
theorem dX12_tells_115 : decode cX12_tells 115 = .ok (.getfield 183, 3) := by decide +kernel
theorem dX12_tells_118 : decode cX12_tells 118 = .ok (.iload 4, 2) := by decide +kernel
theorem dX12_tells_120 : decode cX12_tells 120 = .ok (.iastore, 1) := by decide +kernel
theorem dX12_tells_121 : decode cX12_tells 121 = .ok (.aload_n 0, 1) := by decide +kernel
theorem dX12_tells_122 : decode cX12_tells 122 = .ok (.getfield 16, 3) := by decide +kernel
theorem dX12_tells_125 : decode cX12_tells 125 = .ok (.aload_n 0, 1) := by decide +kernel
theorem dX12_tells_126 : decode cX12_tells 126 = .ok (.getfield 183, 3) := by decide +kernel
theorem dX12_tells_129 : decode cX12_tells 129 = .ok (.iload 5, 2) := by decide +kernel
theorem dX12_tells_131 : decode cX12_tells 131 = .ok (.iastore, 1) := by decide +kernel
theorem dX12_tells_132 : decode cX12_tells 132 = .ok (.aload_n 0, 1) := by decide +kernel
theorem dX12_tells_133 : decode cX12_tells 133 = .ok (.getfield 19, 3) := by decide +kernel
theorem dX12_tells_136 : decode cX12_tells 136 = .ok (.aload_n 0, 1) := by decide +kernel
theorem dX12_tells_137 : decode cX12_tells 137 = .ok (.getfield 183, 3) := by decide +kernel
theorem dX12_tells_140 : decode cX12_tells 140 = .ok (.iload 6, 2) := by decide +kernel
theorem dX12_tells_142 : decode cX12_tells 142 = .ok (.iastore, 1) := by decide +kernel
theorem dX12_tells_143 : decode cX12_tells 143 = .ok (.aload_n 0, 1) := by decide +kernel
theorem dX12_tells_144 : decode cX12_tells 144 = .ok (.getfield 22, 3) := by decide +kernel
theorem dX12_tells_147 : decode cX12_tells 147 = .ok (.aload_n 0, 1) := by decide +kernel
theorem dX12_tells_148 : decode cX12_tells 148 = .ok (.getfield 183, 3) := by decide +kernel
theorem dX12_tells_151 : decode cX12_tells 151 = .ok (.iload_n 1, 1) := by decide +kernel
theorem dX12_tells_152 : decode cX12_tells 152 = .ok (.iastore, 1) := by decide +kernel
theorem dX12_tells_153 : decode cX12_tells 153 = .ok (.aload_n 0, 1) := by decide +kernel
theorem dX12_tells_154 : decode cX12_tells 154 = .ok (.getfield 25, 3) := by decide +kernel
theorem dX12_tells_157 : decode cX12_tells 157 = .ok (.aload_n 0, 1) := by decide +kernel
theorem dX12_tells_158 : decode cX12_tells 158 = .ok (.getfield 183, 3) := by decide +kernel
theorem dX12_tells_161 : decode cX12_tells 161 = .ok (.iload_n 2, 1) := by decide +kernel
theorem dX12_tells_162 : decode cX12_tells 162 = .ok (.iastore, 1) := by decide +kernel
theorem dX12_tells_163 : decode cX12_tells 163 = .ok (.aload_n 0, 1) := by decide +kernel
theorem dX12_tells_164 : decode cX12_tells 164 = .ok (.dup, 1) := by decide +kernel
theorem dX12_tells_165 : decode cX12_tells 165 = .ok (.getfield 183, 3) := by decide +kernel
theorem dX12_tells_168 : decode cX12_tells 168 = .ok (.iconst 1, 1) := by decide +kernel
theorem dX12_tells_169 : decode cX12_tells 169 = .ok (.iadd, 1) := by decide +kernel
theorem dX12_tells_170 : decode cX12_tells 170 = .ok (.putfield 183, 3) := by decide +kernel
theorem dX12_tells_173 : decode cX12_tells 173 = .ok (.aload_n 0, 1) := by decide +kernel
theorem dX12_tells_174 : decode cX12_tells 174 = .ok (.getfield 183, 3) := by decide +kernel
theorem dX12_tells_177 : decode cX12_tells 177 = .ok (.iconst 1, 1) := by decide +kernel
theorem dX12_tells_178 : decode cX12_tells 178 = .ok (.isub, 1) := by decide +kernel
theorem dX12_tells_179 : decode cX12_tells 179 = .ok (.ireturn, 1) := by decide +kernel
theorem dX12_tell_0 : decode cX12_tell 0 = .ok (.aload_n 0, 1) := by decide +kernel
theorem dX12_tell_1 : decode cX12_tell 1 = .ok (.iload_n 1, 1) := by decide +kernel
theorem dX12_tell_2 : decode cX12_tell 2 = .ok (.iconst 0, 1) := by decide +kernel
theorem dX12_tell_3 : decode cX12_tell 3 = .ok (.iconst 5, 1) := by decide +kernel
theorem dX12_tell_4 : decode cX12_tell 4 = .ok (.invokestatic 169, 3) := by decide +kernel
theorem dX12_tell_7 : decode cX12_tell 7 = .ok (.ifCond .eq 7, 3) := by decide +kernel
theorem dX12_tell_10 : decode cX12_tell 10 = .ok (.iconst 0, 1) := by decide +kernel
theorem dX12_tell_11 : decode cX12_tell 11 = .ok (.goto 4, 3) := by decide +kernel
theorem dX12_tell_14 : decode cX12_tell 14 = .ok (.iconst 1, 1) := by decide +kernel
theorem dX12_tell_15 : decode cX12_tell 15 = .ok (.putfield 166, 3) := by decide +kernel
theorem dX12_tell_18 : decode cX12_tell 18 = .ok (.aload_n 0, 1) := by decide +kernel
theorem dX12_tell_19 : decode cX12_tell 19 = .ok (.getfield 166, 3) := by decide +kernel
theorem dX12_tell_22 : decode cX12_tell 22 = .ok (.ifCond .le 7, 3) := by decide +kernel
theorem dX12_tell_25 : decode cX12_tell 25 = .ok (.iconst 0, 1) := by decide +kernel
theorem dX12_tell_26 : decode cX12_tell 26 = .ok (.goto 15, 3) := by decide +kernel
theorem dX12_tell_29 : decode cX12_tell 29 = .ok (.aload_n 0, 1) := by decide +kernel
theorem dX12_tell_30 : decode cX12_tell 30 = .ok (.iload_n 1, 1) := by decide +kernel
theorem dX12_tell_31 : decode cX12_tell 31 = .ok (.iconst (-1), 1) := by decide +kernel
theorem dX12_tell_32 : decode cX12_tell 32 = .ok (.iload_n 2, 1) := by decide +kernel
theorem dX12_tell_33 : decode cX12_tell 33 = .ok (.iload_n 3, 1) := by decide +kernel
theorem dX12_tell_34 : decode cX12_tell 34 = .ok (.iload 4, 2) := by decide +kernel
theorem dX12_tell_36 : decode cX12_tell 36 = .ok (.iload 5, 2) := by decide +kernel
theorem dX12_tell_38 : decode cX12_tell 38 = .ok (.invokevirtual 186, 3) := by decide +kernel
theorem dX12_tell_41 : decode cX12_tell 41 = .ok (.ireturn, 1) := by decide +kernel
theorem dX12_draft_0 : decode cX12_draft 0 = .ok (.aload_n 0, 1) := by decide +kernel
theorem dX12_draft_1 : decode cX12_draft 1 = .ok (.iload_n 1, 1) := by decide +kernel
theorem dX12_draft_2 : decode cX12_draft 2 = .ok (.iconst 0, 1) := by decide +kernel
theorem dX12_draft_3 : decode cX12_draft 3 = .ok (.iconst 2, 1) := by decide +kernel
theorem dX12_draft_4 : decode cX12_draft 4 = .ok (.invokestatic 169, 3) := by decide +kernel
theorem dX12_draft_7 : decode cX12_draft 7 = .ok (.ifCond .eq 7, 3) := by decide +kernel
theorem dX12_draft_10 : decode cX12_draft 10 = .ok (.iconst 0, 1) := by decide +kernel
theorem dX12_draft_11 : decode cX12_draft 11 = .ok (.goto 4, 3) := by decide +kernel
theorem dX12_draft_14 : decode cX12_draft 14 = .ok (.iconst 1, 1) := by decide +kernel
theorem dX12_draft_15 : decode cX12_draft 15 = .ok (.putfield 166, 3) := by decide +kernel
theorem dX12_draft_18 : decode cX12_draft 18 = .ok (.aload_n 0, 1) := by decide +kernel
theorem dX12_draft_19 : decode cX12_draft 19 = .ok (.getfield 166, 3) := by decide +kernel
theorem dX12_draft_22 : decode cX12_draft 22 = .ok (.ifCond .le 7, 3) := by decide +kernel
theorem dX12_draft_25 : decode cX12_draft 25 = .ok (.iconst 0, 1) := by decide +kernel
theorem dX12_draft_26 : decode cX12_draft 26 = .ok (.goto 15, 3) := by decide +kernel
theorem dX12_draft_29 : decode cX12_draft 29 = .ok (.aload_n 0, 1) := by decide +kernel
theorem dX12_draft_30 : decode cX12_draft 30 = .ok (.iconst (-1), 1) := by decide +kernel
theorem dX12_draft_31 : decode cX12_draft 31 = .ok (.iload_n 1, 1) := by decide +kernel
theorem dX12_draft_32 : decode cX12_draft 32 = .ok (.iload_n 2, 1) := by decide +kernel
theorem dX12_draft_33 : decode cX12_draft 33 = .ok (.iload_n 3, 1) := by decide +kernel
theorem dX12_draft_34 : decode cX12_draft 34 = .ok (.iload 4, 2) := by decide +kernel
theorem dX12_draft_36 : decode cX12_draft 36 = .ok (.iload 5, 2) := by decide +kernel
theorem dX12_draft_38 : decode cX12_draft 38 = .ok (.invokevirtual 186, 3) := by decide +kernel
theorem dX12_draft_41 : decode cX12_draft 41 = .ok (.ireturn, 1) := by decide +kernel
theorem dX12_publish_0 : decode cX12_publish 0 = .ok (.aload_n 0, 1) := by decide +kernel
theorem dX12_publish_1 : decode cX12_publish 1 = .ok (.iload_n 1, 1) := by decide +kernel
theorem dX12_publish_2 : decode cX12_publish 2 = .ok (.iconst 0, 1) := by decide +kernel
theorem dX12_publish_3 : decode cX12_publish 3 = .ok (.iconst 2, 1) := by decide +kernel
theorem dX12_publish_4 : decode cX12_publish 4 = .ok (.invokestatic 169, 3) := by decide +kernel
theorem dX12_publish_7 : decode cX12_publish 7 = .ok (.ifCond .ne 7, 3) := by decide +kernel
theorem dX12_publish_10 : decode cX12_publish 10 = .ok (.iconst 1, 1) := by decide +kernel
theorem dX12_publish_11 : decode cX12_publish 11 = .ok (.goto 18, 3) := by decide +kernel
theorem dX12_publish_14 : decode cX12_publish 14 = .ok (.aload_n 0, 1) := by decide +kernel
theorem dX12_publish_15 : decode cX12_publish 15 = .ok (.getfield 35, 3) := by decide +kernel
theorem dX12_publish_18 : decode cX12_publish 18 = .ok (.iload_n 1, 1) := by decide +kernel
theorem dX12_publish_19 : decode cX12_publish 19 = .ok (.iaload, 1) := by decide +kernel
theorem dX12_publish_20 : decode cX12_publish 20 = .ok (.iconst 3, 1) := by decide +kernel
theorem dX12_publish_21 : decode cX12_publish 21 = .ok (.if_icmp .ne 7, 3) := by decide +kernel
theorem dX12_publish_24 : decode cX12_publish 24 = .ok (.iconst 2, 1) := by decide +kernel
theorem dX12_publish_25 : decode cX12_publish 25 = .ok (.goto 4, 3) := by decide +kernel
theorem dX12_publish_28 : decode cX12_publish 28 = .ok (.iconst 0, 1) := by decide +kernel
theorem dX12_publish_29 : decode cX12_publish 29 = .ok (.putfield 166, 3) := by decide +kernel
theorem dX12_publish_32 : decode cX12_publish 32 = .ok (.aload_n 0, 1) := by decide +kernel
theorem dX12_publish_33 : decode cX12_publish 33 = .ok (.getfield 166, 3) := by decide +kernel
theorem dX12_publish_36 : decode cX12_publish 36 = .ok (.ifCond .le 5, 3) := by decide +kernel
theorem dX12_publish_39 : decode cX12_publish 39 = .ok (.iconst 0, 1) := by decide +kernel
theorem dX12_publish_40 : decode cX12_publish 40 = .ok (.ireturn, 1) := by decide +kernel
theorem dX12_publish_41 : decode cX12_publish 41 = .ok (.aload_n 0, 1) := by decide +kernel
theorem dX12_publish_42 : decode cX12_publish 42 = .ok (.getfield 35, 3) := by decide +kernel
theorem dX12_publish_45 : decode cX12_publish 45 = .ok (.iload_n 1, 1) := by decide +kernel
theorem dX12_publish_46 : decode cX12_publish 46 = .ok (.dup2, 1) := by decide +kernel
theorem dX12_publish_47 : decode cX12_publish 47 = .ok (.iaload, 1) := by decide +kernel
theorem dX12_publish_48 : decode cX12_publish 48 = .ok (.iconst 1, 1) := by decide +kernel
theorem dX12_publish_49 : decode cX12_publish 49 = .ok (.iadd, 1) := by decide +kernel
theorem dX12_publish_50 : decode cX12_publish 50 = .ok (.iastore, 1) := by decide +kernel
theorem dX12_publish_51 : decode cX12_publish 51 = .ok (.iconst 0, 1) := by decide +kernel
theorem dX12_publish_52 : decode cX12_publish 52 = .ok (.istore_n 2, 1) := by decide +kernel
theorem dX12_publish_53 : decode cX12_publish 53 = .ok (.iload_n 2, 1) := by decide +kernel
theorem dX12_publish_54 : decode cX12_publish 54 = .ok (.aload_n 0, 1) := by decide +kernel
theorem dX12_publish_55 : decode cX12_publish 55 = .ok (.getfield 183, 3) := by decide +kernel
theorem dX12_publish_58 : decode cX12_publish 58 = .ok (.if_icmp .ge 49, 3) := by decide +kernel
theorem dX12_publish_61 : decode cX12_publish 61 = .ok (.aload_n 0, 1) := by decide +kernel
theorem dX12_publish_62 : decode cX12_publish 62 = .ok (.getfield 28, 3) := by decide +kernel
theorem dX12_publish_65 : decode cX12_publish 65 = .ok (.iload_n 2, 1) := by decide +kernel
theorem dX12_publish_66 : decode cX12_publish 66 = .ok (.aload_n 0, 1) := by decide +kernel
theorem dX12_publish_67 : decode cX12_publish 67 = .ok (.getfield 25, 3) := by decide +kernel
theorem dX12_publish_70 : decode cX12_publish 70 = .ok (.iload_n 2, 1) := by decide +kernel
theorem dX12_publish_71 : decode cX12_publish 71 = .ok (.iaload, 1) := by decide +kernel
theorem dX12_publish_72 : decode cX12_publish 72 = .ok (.iload_n 1, 1) := by decide +kernel
theorem dX12_publish_73 : decode cX12_publish 73 = .ok (.if_icmp .ne 21, 3) := by decide +kernel
theorem dX12_publish_76 : decode cX12_publish 76 = .ok (.aload_n 0, 1) := by decide +kernel
theorem dX12_publish_77 : decode cX12_publish 77 = .ok (.getfield 28, 3) := by decide +kernel
theorem dX12_publish_80 : decode cX12_publish 80 = .ok (.iload_n 2, 1) := by decide +kernel
theorem dX12_publish_81 : decode cX12_publish 81 = .ok (.iaload, 1) := by decide +kernel
theorem dX12_publish_82 : decode cX12_publish 82 = .ok (.ifCond .ne 12, 3) := by decide +kernel
theorem dX12_publish_85 : decode cX12_publish 85 = .ok (.aload_n 0, 1) := by decide +kernel
theorem dX12_publish_86 : decode cX12_publish 86 = .ok (.getfield 35, 3) := by decide +kernel
theorem dX12_publish_89 : decode cX12_publish 89 = .ok (.iload_n 1, 1) := by decide +kernel
theorem dX12_publish_90 : decode cX12_publish 90 = .ok (.iaload, 1) := by decide +kernel
theorem dX12_publish_91 : decode cX12_publish 91 = .ok (.goto 9, 3) := by decide +kernel
theorem dX12_publish_94 : decode cX12_publish 94 = .ok (.aload_n 0, 1) := by decide +kernel
theorem dX12_publish_95 : decode cX12_publish 95 = .ok (.getfield 28, 3) := by decide +kernel
theorem dX12_publish_98 : decode cX12_publish 98 = .ok (.iload_n 2, 1) := by decide +kernel
theorem dX12_publish_99 : decode cX12_publish 99 = .ok (.iaload, 1) := by decide +kernel
theorem dX12_publish_100 : decode cX12_publish 100 = .ok (.iastore, 1) := by decide +kernel
theorem dX12_publish_101 : decode cX12_publish 101 = .ok (.iinc 2 1, 3) := by decide +kernel
theorem dX12_publish_104 : decode cX12_publish 104 = .ok (.goto (-51), 3) := by decide +kernel
theorem dX12_publish_107 : decode cX12_publish 107 = .ok (.aload_n 0, 1) := by decide +kernel
theorem dX12_publish_108 : decode cX12_publish 108 = .ok (.getfield 35, 3) := by decide +kernel
theorem dX12_publish_111 : decode cX12_publish 111 = .ok (.iload_n 1, 1) := by decide +kernel
theorem dX12_publish_112 : decode cX12_publish 112 = .ok (.iaload, 1) := by decide +kernel
theorem dX12_publish_113 : decode cX12_publish 113 = .ok (.ireturn, 1) := by decide +kernel
theorem dX12_remove_0 : decode cX12_remove 0 = .ok (.aload_n 0, 1) := by decide +kernel
theorem dX12_remove_1 : decode cX12_remove 1 = .ok (.iload_n 1, 1) := by decide +kernel
theorem dX12_remove_2 : decode cX12_remove 2 = .ok (.iconst 0, 1) := by decide +kernel
theorem dX12_remove_3 : decode cX12_remove 3 = .ok (.aload_n 0, 1) := by decide +kernel
theorem dX12_remove_4 : decode cX12_remove 4 = .ok (.getfield 183, 3) := by decide +kernel
theorem dX12_remove_7 : decode cX12_remove 7 = .ok (.iconst 1, 1) := by decide +kernel
theorem dX12_remove_8 : decode cX12_remove 8 = .ok (.isub, 1) := by decide +kernel
theorem dX12_remove_9 : decode cX12_remove 9 = .ok (.invokestatic 169, 3) := by decide +kernel
theorem dX12_remove_12 : decode cX12_remove 12 = .ok (.ifCond .eq 25, 3) := by decide +kernel
theorem dX12_remove_15 : decode cX12_remove 15 = .ok (.aload_n 0, 1) := by decide +kernel
theorem dX12_remove_16 : decode cX12_remove 16 = .ok (.getfield 22, 3) := by decide +kernel
theorem dX12_remove_19 : decode cX12_remove 19 = .ok (.iload_n 1, 1) := by decide +kernel
theorem dX12_remove_20 : decode cX12_remove 20 = .ok (.iaload, 1) := by decide +kernel
theorem dX12_remove_21 : decode cX12_remove 21 = .ok (.ifCond .lt 16, 3) := by decide +kernel
theorem dX12_remove_24 : decode cX12_remove 24 = .ok (.aload_n 0, 1) := by decide +kernel
theorem dX12_remove_25 : decode cX12_remove 25 = .ok (.getfield 31, 3) := by decide +kernel
theorem dX12_remove_28 : decode cX12_remove 28 = .ok (.iload_n 1, 1) := by decide +kernel
theorem dX12_remove_29 : decode cX12_remove 29 = .ok (.baload, 1) := by decide +kernel
theorem dX12_remove_30 : decode cX12_remove 30 = .ok (.ifCond .ne 7, 3) := by decide +kernel
theorem dX12_remove_33 : decode cX12_remove 33 = .ok (.iconst 0, 1) := by decide +kernel
theorem dX12_remove_34 : decode cX12_remove 34 = .ok (.goto 4, 3) := by decide +kernel
theorem dX12_remove_37 : decode cX12_remove 37 = .ok (.iconst 1, 1) := by decide +kernel
theorem dX12_remove_38 : decode cX12_remove 38 = .ok (.putfield 166, 3) := by decide +kernel
theorem dX12_remove_41 : decode cX12_remove 41 = .ok (.aload_n 0, 1) := by decide +kernel
theorem dX12_remove_42 : decode cX12_remove 42 = .ok (.getfield 166, 3) := by decide +kernel
theorem dX12_remove_45 : decode cX12_remove 45 = .ok (.ifCond .le 5, 3) := by decide +kernel
theorem dX12_remove_48 : decode cX12_remove 48 = .ok (.iconst 0, 1) := by decide +kernel
theorem dX12_remove_49 : decode cX12_remove 49 = .ok (.ireturn, 1) := by decide +kernel
theorem dX12_remove_50 : decode cX12_remove 50 = .ok (.aload_n 0, 1) := by decide +kernel
theorem dX12_remove_51 : decode cX12_remove 51 = .ok (.getfield 31, 3) := by decide +kernel
theorem dX12_remove_54 : decode cX12_remove 54 = .ok (.iload_n 1, 1) := by decide +kernel
theorem dX12_remove_55 : decode cX12_remove 55 = .ok (.iconst 1, 1) := by decide +kernel
theorem dX12_remove_56 : decode cX12_remove 56 = .ok (.bastore, 1) := by decide +kernel
theorem dX12_remove_57 : decode cX12_remove 57 = .ok (.aload_n 0, 1) := by decide +kernel
theorem dX12_remove_58 : decode cX12_remove 58 = .ok (.invokevirtual 190, 3) := by decide +kernel
theorem dX12_remove_61 : decode cX12_remove 61 = .ok (.iconst 0, 1) := by decide +kernel
theorem dX12_remove_62 : decode cX12_remove 62 = .ok (.istore_n 2, 1) := by decide +kernel
theorem dX12_remove_63 : decode cX12_remove 63 = .ok (.iconst 0, 1) := by decide +kernel
theorem dX12_remove_64 : decode cX12_remove 64 = .ok (.istore_n 3, 1) := by decide +kernel
theorem dX12_remove_65 : decode cX12_remove 65 = .ok (.iload_n 3, 1) := by decide +kernel
theorem dX12_remove_66 : decode cX12_remove 66 = .ok (.aload_n 0, 1) := by decide +kernel
theorem dX12_remove_67 : decode cX12_remove 67 = .ok (.getfield 183, 3) := by decide +kernel
theorem dX12_remove_70 : decode cX12_remove 70 = .ok (.if_icmp .ge 26, 3) := by decide +kernel
theorem dX12_remove_73 : decode cX12_remove 73 = .ok (.iload_n 2, 1) := by decide +kernel
theorem dX12_remove_74 : decode cX12_remove 74 = .ok (.aload_n 0, 1) := by decide +kernel
theorem dX12_remove_75 : decode cX12_remove 75 = .ok (.getfield 135, 3) := by decide +kernel
theorem dX12_remove_78 : decode cX12_remove 78 = .ok (.iload_n 3, 1) := by decide +kernel
theorem dX12_remove_79 : decode cX12_remove 79 = .ok (.baload, 1) := by decide +kernel
theorem dX12_remove_80 : decode cX12_remove 80 = .ok (.ifCond .eq 7, 3) := by decide +kernel
theorem dX12_remove_83 : decode cX12_remove 83 = .ok (.iconst 1, 1) := by decide +kernel
theorem dX12_remove_84 : decode cX12_remove 84 = .ok (.goto 4, 3) := by decide +kernel
theorem dX12_remove_87 : decode cX12_remove 87 = .ok (.iconst 0, 1) := by decide +kernel
theorem dX12_remove_88 : decode cX12_remove 88 = .ok (.iadd, 1) := by decide +kernel
theorem dX12_remove_89 : decode cX12_remove 89 = .ok (.istore_n 2, 1) := by decide +kernel
theorem dX12_remove_90 : decode cX12_remove 90 = .ok (.iinc 3 1, 3) := by decide +kernel
theorem dX12_remove_93 : decode cX12_remove 93 = .ok (.goto (-28), 3) := by decide +kernel
theorem dX12_remove_96 : decode cX12_remove 96 = .ok (.iload_n 2, 1) := by decide +kernel
theorem dX12_remove_97 : decode cX12_remove 97 = .ok (.ireturn, 1) := by decide +kernel
theorem dX12_setLayer_0 : decode cX12_setLayer 0 = .ok (.aload_n 0, 1) := by decide +kernel
theorem dX12_setLayer_1 : decode cX12_setLayer 1 = .ok (.iload_n 1, 1) := by decide +kernel
theorem dX12_setLayer_2 : decode cX12_setLayer 2 = .ok (.iconst 0, 1) := by decide +kernel
theorem dX12_setLayer_3 : decode cX12_setLayer 3 = .ok (.iconst 5, 1) := by decide +kernel
theorem dX12_setLayer_4 : decode cX12_setLayer 4 = .ok (.invokestatic 169, 3) := by decide +kernel
theorem dX12_setLayer_7 : decode cX12_setLayer 7 = .ok (.ifCond .eq 16, 3) := by decide +kernel
theorem dX12_setLayer_10 : decode cX12_setLayer 10 = .ok (.iload_n 2, 1) := by decide +kernel
theorem dX12_setLayer_11 : decode cX12_setLayer 11 = .ok (.iconst 0, 1) := by decide +kernel
theorem dX12_setLayer_12 : decode cX12_setLayer 12 = .ok (.iconst 3, 1) := by decide +kernel
theorem dX12_setLayer_13 : decode cX12_setLayer 13 = .ok (.invokestatic 169, 3) := by decide +kernel
theorem dX12_setLayer_16 : decode cX12_setLayer 16 = .ok (.ifCond .eq 7, 3) := by decide +kernel
theorem dX12_setLayer_19 : decode cX12_setLayer 19 = .ok (.iconst 0, 1) := by decide +kernel
theorem dX12_setLayer_20 : decode cX12_setLayer 20 = .ok (.goto 4, 3) := by decide +kernel
theorem dX12_setLayer_23 : decode cX12_setLayer 23 = .ok (.iconst 1, 1) := by decide +kernel
theorem dX12_setLayer_24 : decode cX12_setLayer 24 = .ok (.putfield 166, 3) := by decide +kernel
theorem dX12_setLayer_27 : decode cX12_setLayer 27 = .ok (.aload_n 0, 1) := by decide +kernel
theorem dX12_setLayer_28 : decode cX12_setLayer 28 = .ok (.getfield 166, 3) := by decide +kernel
theorem dX12_setLayer_31 : decode cX12_setLayer 31 = .ok (.ifCond .le 5, 3) := by decide +kernel
theorem dX12_setLayer_34 : decode cX12_setLayer 34 = .ok (.iconst 0, 1) := by decide +kernel
theorem dX12_setLayer_35 : decode cX12_setLayer 35 = .ok (.ireturn, 1) := by decide +kernel
theorem dX12_setLayer_36 : decode cX12_setLayer 36 = .ok (.aload_n 0, 1) := by decide +kernel
theorem dX12_setLayer_37 : decode cX12_setLayer 37 = .ok (.getfield 38, 3) := by decide +kernel
theorem dX12_setLayer_40 : decode cX12_setLayer 40 = .ok (.iload_n 1, 1) := by decide +kernel
theorem dX12_setLayer_41 : decode cX12_setLayer 41 = .ok (.iaload, 1) := by decide +kernel
theorem dX12_setLayer_42 : decode cX12_setLayer 42 = .ok (.istore_n 3, 1) := by decide +kernel
theorem dX12_setLayer_43 : decode cX12_setLayer 43 = .ok (.aload_n 0, 1) := by decide +kernel
theorem dX12_setLayer_44 : decode cX12_setLayer 44 = .ok (.getfield 38, 3) := by decide +kernel
theorem dX12_setLayer_47 : decode cX12_setLayer 47 = .ok (.iload_n 1, 1) := by decide +kernel
theorem dX12_setLayer_48 : decode cX12_setLayer 48 = .ok (.iload_n 2, 1) := by decide +kernel
theorem dX12_setLayer_49 : decode cX12_setLayer 49 = .ok (.iastore, 1) := by decide +kernel
theorem dX12_setLayer_50 : decode cX12_setLayer 50 = .ok (.iload_n 3, 1) := by decide +kernel
theorem dX12_setLayer_51 : decode cX12_setLayer 51 = .ok (.ireturn, 1) := by decide +kernel
theorem dX12_lock_0 : decode cX12_lock 0 = .ok (.aload_n 0, 1) := by decide +kernel
theorem dX12_lock_1 : decode cX12_lock 1 = .ok (.iload_n 1, 1) := by decide +kernel
theorem dX12_lock_2 : decode cX12_lock 2 = .ok (.invokestatic 173, 3) := by decide +kernel
theorem dX12_lock_5 : decode cX12_lock 5 = .ok (.ifCond .eq 16, 3) := by decide +kernel
theorem dX12_lock_8 : decode cX12_lock 8 = .ok (.iload_n 2, 1) := by decide +kernel
theorem dX12_lock_9 : decode cX12_lock 9 = .ok (.iconst (-1), 1) := by decide +kernel
theorem dX12_lock_10 : decode cX12_lock 10 = .ok (.iconst 3, 1) := by decide +kernel
theorem dX12_lock_11 : decode cX12_lock 11 = .ok (.invokestatic 169, 3) := by decide +kernel
theorem dX12_lock_14 : decode cX12_lock 14 = .ok (.ifCond .eq 7, 3) := by decide +kernel
theorem dX12_lock_17 : decode cX12_lock 17 = .ok (.iconst 0, 1) := by decide +kernel
theorem dX12_lock_18 : decode cX12_lock 18 = .ok (.goto 4, 3) := by decide +kernel
theorem dX12_lock_21 : decode cX12_lock 21 = .ok (.iconst 1, 1) := by decide +kernel
theorem dX12_lock_22 : decode cX12_lock 22 = .ok (.putfield 166, 3) := by decide +kernel
theorem dX12_lock_25 : decode cX12_lock 25 = .ok (.aload_n 0, 1) := by decide +kernel
theorem dX12_lock_26 : decode cX12_lock 26 = .ok (.getfield 166, 3) := by decide +kernel
theorem dX12_lock_29 : decode cX12_lock 29 = .ok (.ifCond .le 5, 3) := by decide +kernel
theorem dX12_lock_32 : decode cX12_lock 32 = .ok (.iconst 0, 1) := by decide +kernel
theorem dX12_lock_33 : decode cX12_lock 33 = .ok (.ireturn, 1) := by decide +kernel
theorem dX12_lock_34 : decode cX12_lock 34 = .ok (.aload_n 0, 1) := by decide +kernel
theorem dX12_lock_35 : decode cX12_lock 35 = .ok (.getfield 41, 3) := by decide +kernel
theorem dX12_lock_38 : decode cX12_lock 38 = .ok (.iload_n 1, 1) := by decide +kernel
theorem dX12_lock_39 : decode cX12_lock 39 = .ok (.iaload, 1) := by decide +kernel
theorem dX12_lock_40 : decode cX12_lock 40 = .ok (.iconst 1, 1) := by decide +kernel
theorem dX12_lock_41 : decode cX12_lock 41 = .ok (.isub, 1) := by decide +kernel
theorem dX12_lock_42 : decode cX12_lock 42 = .ok (.istore_n 3, 1) := by decide +kernel
theorem dX12_lock_43 : decode cX12_lock 43 = .ok (.aload_n 0, 1) := by decide +kernel
theorem dX12_lock_44 : decode cX12_lock 44 = .ok (.getfield 41, 3) := by decide +kernel
theorem dX12_lock_47 : decode cX12_lock 47 = .ok (.iload_n 1, 1) := by decide +kernel
theorem dX12_lock_48 : decode cX12_lock 48 = .ok (.iload_n 2, 1) := by decide +kernel
theorem dX12_lock_49 : decode cX12_lock 49 = .ok (.iconst 1, 1) := by decide +kernel
theorem dX12_lock_50 : decode cX12_lock 50 = .ok (.iadd, 1) := by decide +kernel
theorem dX12_lock_51 : decode cX12_lock 51 = .ok (.iastore, 1) := by decide +kernel
theorem dX12_lock_52 : decode cX12_lock 52 = .ok (.iload_n 3, 1) := by decide +kernel
theorem dX12_lock_53 : decode cX12_lock 53 = .ok (.ireturn, 1) := by decide +kernel
theorem dX12_except_0 : decode cX12_except 0 = .ok (.aload_n 0, 1) := by decide +kernel
theorem dX12_except_1 : decode cX12_except 1 = .ok (.iload_n 1, 1) := by decide +kernel
theorem dX12_except_2 : decode cX12_except 2 = .ok (.iconst 0, 1) := by decide +kernel
theorem dX12_except_3 : decode cX12_except 3 = .ok (.iconst 5, 1) := by decide +kernel
theorem dX12_except_4 : decode cX12_except 4 = .ok (.invokestatic 169, 3) := by decide +kernel
theorem dX12_except_7 : decode cX12_except 7 = .ok (.ifCond .eq 10, 3) := by decide +kernel
theorem dX12_except_10 : decode cX12_except 10 = .ok (.iload_n 2, 1) := by decide +kernel
theorem dX12_except_11 : decode cX12_except 11 = .ok (.invokestatic 173, 3) := by decide +kernel
theorem dX12_except_14 : decode cX12_except 14 = .ok (.ifCond .ne 7, 3) := by decide +kernel
theorem dX12_except_17 : decode cX12_except 17 = .ok (.iconst 1, 1) := by decide +kernel
theorem dX12_except_18 : decode cX12_except 18 = .ok (.goto 18, 3) := by decide +kernel
theorem dX12_except_21 : decode cX12_except 21 = .ok (.iload_n 3, 1) := by decide +kernel
theorem dX12_except_22 : decode cX12_except 22 = .ok (.iconst 1, 1) := by decide +kernel
theorem dX12_except_23 : decode cX12_except 23 = .ok (.bipush 30, 2) := by decide +kernel
theorem dX12_except_25 : decode cX12_except 25 = .ok (.invokestatic 169, 3) := by decide +kernel
theorem dX12_except_28 : decode cX12_except 28 = .ok (.ifCond .eq 7, 3) := by decide +kernel
theorem dX12_except_31 : decode cX12_except 31 = .ok (.iconst 0, 1) := by decide +kernel
theorem dX12_except_32 : decode cX12_except 32 = .ok (.goto 4, 3) := by decide +kernel
theorem dX12_except_35 : decode cX12_except 35 = .ok (.iconst 2, 1) := by decide +kernel
theorem dX12_except_36 : decode cX12_except 36 = .ok (.putfield 166, 3) := by decide +kernel
theorem dX12_except_39 : decode cX12_except 39 = .ok (.aload_n 0, 1) := by decide +kernel
theorem dX12_except_40 : decode cX12_except 40 = .ok (.getfield 166, 3) := by decide +kernel
theorem dX12_except_43 : decode cX12_except 43 = .ok (.ifCond .le 5, 3) := by decide +kernel
theorem dX12_except_46 : decode cX12_except 46 = .ok (.iconst 0, 1) := by decide +kernel
theorem dX12_except_47 : decode cX12_except 47 = .ok (.ireturn, 1) := by decide +kernel
theorem dX12_except_48 : decode cX12_except 48 = .ok (.aload_n 0, 1) := by decide +kernel
theorem dX12_except_49 : decode cX12_except 49 = .ok (.getfield 44, 3) := by decide +kernel
theorem dX12_except_52 : decode cX12_except 52 = .ok (.bipush 10, 2) := by decide +kernel
theorem dX12_except_54 : decode cX12_except 54 = .ok (.iload_n 1, 1) := by decide +kernel
theorem dX12_except_55 : decode cX12_except 55 = .ok (.imul, 1) := by decide +kernel
theorem dX12_except_56 : decode cX12_except 56 = .ok (.iload_n 2, 1) := by decide +kernel
theorem dX12_except_57 : decode cX12_except 57 = .ok (.iadd, 1) := by decide +kernel
theorem dX12_except_58 : decode cX12_except 58 = .ok (.aload_n 0, 1) := by decide +kernel
theorem dX12_except_59 : decode cX12_except 59 = .ok (.getfield 193, 3) := by decide +kernel
theorem dX12_except_62 : decode cX12_except 62 = .ok (.iload_n 3, 1) := by decide +kernel
theorem dX12_except_63 : decode cX12_except 63 = .ok (.iadd, 1) := by decide +kernel
theorem dX12_except_64 : decode cX12_except 64 = .ok (.iastore, 1) := by decide +kernel
theorem dX12_except_65 : decode cX12_except 65 = .ok (.aload_n 0, 1) := by decide +kernel
theorem dX12_except_66 : decode cX12_except 66 = .ok (.getfield 193, 3) := by decide +kernel
theorem dX12_except_69 : decode cX12_except 69 = .ok (.iload_n 3, 1) := by decide +kernel
theorem dX12_except_70 : decode cX12_except 70 = .ok (.iadd, 1) := by decide +kernel
theorem dX12_except_71 : decode cX12_except 71 = .ok (.ireturn, 1) := by decide +kernel
theorem dX12_pass_0 : decode cX12_pass 0 = .ok (.aload_n 0, 1) := by decide +kernel
theorem dX12_pass_1 : decode cX12_pass 1 = .ok (.iload_n 1, 1) := by decide +kernel
theorem dX12_pass_2 : decode cX12_pass 2 = .ok (.iconst 1, 1) := by decide +kernel
theorem dX12_pass_3 : decode cX12_pass 3 = .ok (.bipush 30, 2) := by decide +kernel
theorem dX12_pass_5 : decode cX12_pass 5 = .ok (.invokestatic 169, 3) := by decide +kernel
theorem dX12_pass_8 : decode cX12_pass 8 = .ok (.ifCond .eq 7, 3) := by decide +kernel
theorem dX12_pass_11 : decode cX12_pass 11 = .ok (.iconst 0, 1) := by decide +kernel
theorem dX12_pass_12 : decode cX12_pass 12 = .ok (.goto 4, 3) := by decide +kernel
theorem dX12_pass_15 : decode cX12_pass 15 = .ok (.iconst 1, 1) := by decide +kernel
theorem dX12_pass_16 : decode cX12_pass 16 = .ok (.putfield 166, 3) := by decide +kernel
theorem dX12_pass_19 : decode cX12_pass 19 = .ok (.aload_n 0, 1) := by decide +kernel
theorem dX12_pass_20 : decode cX12_pass 20 = .ok (.getfield 166, 3) := by decide +kernel
theorem dX12_pass_23 : decode cX12_pass 23 = .ok (.ifCond .le 5, 3) := by decide +kernel
theorem dX12_pass_26 : decode cX12_pass 26 = .ok (.iconst 0, 1) := by decide +kernel
theorem dX12_pass_27 : decode cX12_pass 27 = .ok (.ireturn, 1) := by decide +kernel
theorem dX12_pass_28 : decode cX12_pass 28 = .ok (.aload_n 0, 1) := by decide +kernel
theorem dX12_pass_29 : decode cX12_pass 29 = .ok (.dup, 1) := by decide +kernel
theorem dX12_pass_30 : decode cX12_pass 30 = .ok (.getfield 193, 3) := by decide +kernel
theorem dX12_pass_33 : decode cX12_pass 33 = .ok (.iload_n 1, 1) := by decide +kernel
theorem dX12_pass_34 : decode cX12_pass 34 = .ok (.iadd, 1) := by decide +kernel
theorem dX12_pass_35 : decode cX12_pass 35 = .ok (.putfield 193, 3) := by decide +kernel
theorem dX12_pass_38 : decode cX12_pass 38 = .ok (.aload_n 0, 1) := by decide +kernel
theorem dX12_pass_39 : decode cX12_pass 39 = .ok (.getfield 123, 3) := by decide +kernel
theorem dX12_pass_42 : decode cX12_pass 42 = .ok (.ifCond .lt 18, 3) := by decide +kernel
theorem dX12_pass_45 : decode cX12_pass 45 = .ok (.aload_n 0, 1) := by decide +kernel
theorem dX12_pass_46 : decode cX12_pass 46 = .ok (.getfield 193, 3) := by decide +kernel
theorem dX12_pass_49 : decode cX12_pass 49 = .ok (.aload_n 0, 1) := by decide +kernel
theorem dX12_pass_50 : decode cX12_pass 50 = .ok (.getfield 123, 3) := by decide +kernel
theorem dX12_pass_53 : decode cX12_pass 53 = .ok (.if_icmp .lt 7, 3) := by decide +kernel
theorem dX12_pass_56 : decode cX12_pass 56 = .ok (.aload_n 0, 1) := by decide +kernel
theorem dX12_pass_57 : decode cX12_pass 57 = .ok (.invokevirtual 196, 3) := by decide +kernel
theorem dX12_pass_60 : decode cX12_pass 60 = .ok (.aload_n 0, 1) := by decide +kernel
theorem dX12_pass_61 : decode cX12_pass 61 = .ok (.getfield 193, 3) := by decide +kernel
theorem dX12_pass_64 : decode cX12_pass 64 = .ok (.ireturn, 1) := by decide +kernel
theorem dX12_wants_0 : decode cX12_wants 0 = .ok (.aload_n 0, 1) := by decide +kernel
theorem dX12_wants_1 : decode cX12_wants 1 = .ok (.getfield 22, 3) := by decide +kernel
theorem dX12_wants_4 : decode cX12_wants 4 = .ok (.iload_n 1, 1) := by decide +kernel
theorem dX12_wants_5 : decode cX12_wants 5 = .ok (.iaload, 1) := by decide +kernel
theorem dX12_wants_6 : decode cX12_wants 6 = .ok (.ifCond .lt 20, 3) := by decide +kernel
theorem dX12_wants_9 : decode cX12_wants 9 = .ok (.aload_n 0, 1) := by decide +kernel
theorem dX12_wants_10 : decode cX12_wants 10 = .ok (.getfield 31, 3) := by decide +kernel
theorem dX12_wants_13 : decode cX12_wants 13 = .ok (.iload_n 1, 1) := by decide +kernel
theorem dX12_wants_14 : decode cX12_wants 14 = .ok (.baload, 1) := by decide +kernel
theorem dX12_wants_15 : decode cX12_wants 15 = .ok (.ifCond .ne 7, 3) := by decide +kernel
theorem dX12_wants_18 : decode cX12_wants 18 = .ok (.iconst 1, 1) := by decide +kernel
theorem dX12_wants_19 : decode cX12_wants 19 = .ok (.goto 46, 3) := by decide +kernel
theorem dX12_wants_22 : decode cX12_wants 22 = .ok (.iconst 0, 1) := by decide +kernel
theorem dX12_wants_23 : decode cX12_wants 23 = .ok (.goto 42, 3) := by decide +kernel
theorem dX12_wants_26 : decode cX12_wants 26 = .ok (.aload_n 0, 1) := by decide +kernel
theorem dX12_wants_27 : decode cX12_wants 27 = .ok (.getfield 28, 3) := by decide +kernel
theorem dX12_wants_30 : decode cX12_wants 30 = .ok (.iload_n 1, 1) := by decide +kernel
theorem dX12_wants_31 : decode cX12_wants 31 = .ok (.iaload, 1) := by decide +kernel
theorem dX12_wants_32 : decode cX12_wants 32 = .ok (.ifCond .le 32, 3) := by decide +kernel
theorem dX12_wants_35 : decode cX12_wants 35 = .ok (.aload_n 0, 1) := by decide +kernel
theorem dX12_wants_36 : decode cX12_wants 36 = .ok (.getfield 132, 3) := by decide +kernel
theorem dX12_wants_39 : decode cX12_wants 39 = .ok (.iconst 3, 1) := by decide +kernel
theorem dX12_wants_40 : decode cX12_wants 40 = .ok (.aload_n 0, 1) := by decide +kernel
theorem dX12_wants_41 : decode cX12_wants 41 = .ok (.getfield 25, 3) := by decide +kernel
theorem dX12_wants_44 : decode cX12_wants 44 = .ok (.iload_n 1, 1) := by decide +kernel
theorem dX12_wants_45 : decode cX12_wants 45 = .ok (.iaload, 1) := by decide +kernel
theorem dX12_wants_46 : decode cX12_wants 46 = .ok (.imul, 1) := by decide +kernel
theorem dX12_wants_47 : decode cX12_wants 47 = .ok (.aload_n 0, 1) := by decide +kernel
theorem dX12_wants_48 : decode cX12_wants 48 = .ok (.getfield 28, 3) := by decide +kernel
theorem dX12_wants_51 : decode cX12_wants 51 = .ok (.iload_n 1, 1) := by decide +kernel
theorem dX12_wants_52 : decode cX12_wants 52 = .ok (.iaload, 1) := by decide +kernel
theorem dX12_wants_53 : decode cX12_wants 53 = .ok (.iadd, 1) := by decide +kernel
theorem dX12_wants_54 : decode cX12_wants 54 = .ok (.iconst 1, 1) := by decide +kernel
theorem dX12_wants_55 : decode cX12_wants 55 = .ok (.isub, 1) := by decide +kernel
theorem dX12_wants_56 : decode cX12_wants 56 = .ok (.baload, 1) := by decide +kernel
theorem dX12_wants_57 : decode cX12_wants 57 = .ok (.ifCond .eq 7, 3) := by decide +kernel
theorem dX12_wants_60 : decode cX12_wants 60 = .ok (.iconst 1, 1) := by decide +kernel
theorem dX12_wants_61 : decode cX12_wants 61 = .ok (.goto 4, 3) := by decide +kernel
theorem dX12_wants_64 : decode cX12_wants 64 = .ok (.iconst 0, 1) := by decide +kernel
theorem dX12_wants_65 : decode cX12_wants 65 = .ok (.istore_n 2, 1) := by decide +kernel
theorem dX12_wants_66 : decode cX12_wants 66 = .ok (.iload_n 2, 1) := by decide +kernel
theorem dX12_wants_67 : decode cX12_wants 67 = .ok (.ifCond .eq 18, 3) := by decide +kernel
theorem dX12_wants_70 : decode cX12_wants 70 = .ok (.aload_n 0, 1) := by decide +kernel
theorem dX12_wants_71 : decode cX12_wants 71 = .ok (.getfield 7, 3) := by decide +kernel
theorem dX12_wants_74 : decode cX12_wants 74 = .ok (.iload_n 1, 1) := by decide +kernel
theorem dX12_wants_75 : decode cX12_wants 75 = .ok (.iaload, 1) := by decide +kernel
theorem dX12_wants_76 : decode cX12_wants 76 = .ok (.bipush 12, 2) := by decide +kernel
theorem dX12_wants_78 : decode cX12_wants 78 = .ok (.if_icmp .ne 7, 3) := by decide +kernel
theorem dX12_wants_81 : decode cX12_wants 81 = .ok (.iconst 1, 1) := by decide +kernel
theorem dX12_wants_82 : decode cX12_wants 82 = .ok (.goto 4, 3) := by decide +kernel
theorem dX12_wants_85 : decode cX12_wants 85 = .ok (.iconst 0, 1) := by decide +kernel
theorem dX12_wants_86 : decode cX12_wants 86 = .ok (.ireturn, 1) := by decide +kernel
theorem dX12_lays_0 : decode cX12_lays 0 = .ok (.iconst 0, 1) := by decide +kernel
theorem dX12_lays_1 : decode cX12_lays 1 = .ok (.istore_n 1, 1) := by decide +kernel
theorem dX12_lays_2 : decode cX12_lays 2 = .ok (.iload_n 1, 1) := by decide +kernel
theorem dX12_lays_3 : decode cX12_lays 3 = .ok (.bipush 9, 2) := by decide +kernel
theorem dX12_lays_5 : decode cX12_lays 5 = .ok (.if_icmp .ge 16, 3) := by decide +kernel
theorem dX12_lays_8 : decode cX12_lays 8 = .ok (.aload_n 0, 1) := by decide +kernel
theorem dX12_lays_9 : decode cX12_lays 9 = .ok (.getfield 132, 3) := by decide +kernel
theorem dX12_lays_12 : decode cX12_lays 12 = .ok (.iload_n 1, 1) := by decide +kernel
theorem dX12_lays_13 : decode cX12_lays 13 = .ok (.iconst 0, 1) := by decide +kernel
theorem dX12_lays_14 : decode cX12_lays 14 = .ok (.bastore, 1) := by decide +kernel
theorem dX12_lays_15 : decode cX12_lays 15 = .ok (.iinc 1 1, 3) := by decide +kernel
theorem dX12_lays_18 : decode cX12_lays 18 = .ok (.goto (-16), 3) := by decide +kernel
theorem dX12_lays_21 : decode cX12_lays 21 = .ok (.iconst 1, 1) := by decide +kernel
theorem dX12_lays_22 : decode cX12_lays 22 = .ok (.istore_n 1, 1) := by decide +kernel
theorem dX12_lays_23 : decode cX12_lays 23 = .ok (.iload_n 1, 1) := by decide +kernel
theorem dX12_lays_24 : decode cX12_lays 24 = .ok (.ifCond .eq 116, 3) := by decide +kernel
theorem dX12_lays_27 : decode cX12_lays 27 = .ok (.iconst 0, 1) := by decide +kernel
theorem dX12_lays_28 : decode cX12_lays 28 = .ok (.istore_n 1, 1) := by decide +kernel
theorem dX12_lays_29 : decode cX12_lays 29 = .ok (.iconst 0, 1) := by decide +kernel
theorem dX12_lays_30 : decode cX12_lays 30 = .ok (.istore_n 2, 1) := by decide +kernel
theorem dX12_lays_31 : decode cX12_lays 31 = .ok (.iload_n 2, 1) := by decide +kernel
theorem dX12_lays_32 : decode cX12_lays 32 = .ok (.aload_n 0, 1) := by decide +kernel
theorem dX12_lays_33 : decode cX12_lays 33 = .ok (.getfield 183, 3) := by decide +kernel
theorem dX12_lays_36 : decode cX12_lays 36 = .ok (.if_icmp .ge 101, 3) := by decide +kernel
theorem dX12_lays_39 : decode cX12_lays 39 = .ok (.aload_n 0, 1) := by decide +kernel
theorem dX12_lays_40 : decode cX12_lays 40 = .ok (.iload_n 2, 1) := by decide +kernel
theorem dX12_lays_41 : decode cX12_lays 41 = .ok (.invokevirtual 199, 3) := by decide +kernel
theorem dX12_lays_44 : decode cX12_lays 44 = .ok (.ifCond .eq 17, 3) := by decide +kernel
theorem dX12_lays_47 : decode cX12_lays 47 = .ok (.aload_n 0, 1) := by decide +kernel
theorem dX12_lays_48 : decode cX12_lays 48 = .ok (.getfield 35, 3) := by decide +kernel
theorem dX12_lays_51 : decode cX12_lays 51 = .ok (.aload_n 0, 1) := by decide +kernel
theorem dX12_lays_52 : decode cX12_lays 52 = .ok (.getfield 13, 3) := by decide +kernel
theorem dX12_lays_55 : decode cX12_lays 55 = .ok (.iload_n 2, 1) := by decide +kernel
theorem dX12_lays_56 : decode cX12_lays 56 = .ok (.iaload, 1) := by decide +kernel
theorem dX12_lays_57 : decode cX12_lays 57 = .ok (.iaload, 1) := by decide +kernel
theorem dX12_lays_58 : decode cX12_lays 58 = .ok (.goto 4, 3) := by decide +kernel
theorem dX12_lays_61 : decode cX12_lays 61 = .ok (.iconst 0, 1) := by decide +kernel
theorem dX12_lays_62 : decode cX12_lays 62 = .ok (.istore_n 3, 1) := by decide +kernel
theorem dX12_lays_63 : decode cX12_lays 63 = .ok (.iload_n 3, 1) := by decide +kernel
theorem dX12_lays_64 : decode cX12_lays 64 = .ok (.aload_n 0, 1) := by decide +kernel
theorem dX12_lays_65 : decode cX12_lays 65 = .ok (.getfield 16, 3) := by decide +kernel
theorem dX12_lays_68 : decode cX12_lays 68 = .ok (.iload_n 2, 1) := by decide +kernel
theorem dX12_lays_69 : decode cX12_lays 69 = .ok (.iaload, 1) := by decide +kernel
theorem dX12_lays_70 : decode cX12_lays 70 = .ok (.if_icmp .ge 7, 3) := by decide +kernel
theorem dX12_lays_73 : decode cX12_lays 73 = .ok (.iload_n 3, 1) := by decide +kernel
theorem dX12_lays_74 : decode cX12_lays 74 = .ok (.goto 9, 3) := by decide +kernel
theorem dX12_lays_77 : decode cX12_lays 77 = .ok (.aload_n 0, 1) := by decide +kernel
theorem dX12_lays_78 : decode cX12_lays 78 = .ok (.getfield 16, 3) := by decide +kernel
theorem dX12_lays_81 : decode cX12_lays 81 = .ok (.iload_n 2, 1) := by decide +kernel
theorem dX12_lays_82 : decode cX12_lays 82 = .ok (.iaload, 1) := by decide +kernel
theorem dX12_lays_83 : decode cX12_lays 83 = .ok (.istore 4, 2) := by decide +kernel
theorem dX12_lays_85 : decode cX12_lays 85 = .ok (.iload_n 3, 1) := by decide +kernel
theorem dX12_lays_86 : decode cX12_lays 86 = .ok (.ifCond .le 45, 3) := by decide +kernel
theorem dX12_lays_89 : decode cX12_lays 89 = .ok (.aload_n 0, 1) := by decide +kernel
theorem dX12_lays_90 : decode cX12_lays 90 = .ok (.getfield 132, 3) := by decide +kernel
theorem dX12_lays_93 : decode cX12_lays 93 = .ok (.iconst 3, 1) := by decide +kernel
theorem dX12_lays_94 : decode cX12_lays 94 = .ok (.aload_n 0, 1) := by decide +kernel
theorem dX12_lays_95 : decode cX12_lays 95 = .ok (.getfield 13, 3) := by decide +kernel
theorem dX12_lays_98 : decode cX12_lays 98 = .ok (.iload_n 2, 1) := by decide +kernel
theorem dX12_lays_99 : decode cX12_lays 99 = .ok (.iaload, 1) := by decide +kernel
theorem dX12_lays_100 : decode cX12_lays 100 = .ok (.imul, 1) := by decide +kernel
theorem dX12_lays_101 : decode cX12_lays 101 = .ok (.iload 4, 2) := by decide +kernel
theorem dX12_lays_103 : decode cX12_lays 103 = .ok (.iadd, 1) := by decide +kernel
theorem dX12_lays_104 : decode cX12_lays 104 = .ok (.iconst 1, 1) := by decide +kernel
theorem dX12_lays_105 : decode cX12_lays 105 = .ok (.isub, 1) := by decide +kernel
theorem dX12_lays_106 : decode cX12_lays 106 = .ok (.baload, 1) := by decide +kernel
theorem dX12_lays_107 : decode cX12_lays 107 = .ok (.ifCond .ne 24, 3) := by decide +kernel
theorem dX12_lays_110 : decode cX12_lays 110 = .ok (.aload_n 0, 1) := by decide +kernel
theorem dX12_lays_111 : decode cX12_lays 111 = .ok (.getfield 132, 3) := by decide +kernel
theorem dX12_lays_114 : decode cX12_lays 114 = .ok (.iconst 3, 1) := by decide +kernel
theorem dX12_lays_115 : decode cX12_lays 115 = .ok (.aload_n 0, 1) := by decide +kernel
theorem dX12_lays_116 : decode cX12_lays 116 = .ok (.getfield 13, 3) := by decide +kernel
theorem dX12_lays_119 : decode cX12_lays 119 = .ok (.iload_n 2, 1) := by decide +kernel
theorem dX12_lays_120 : decode cX12_lays 120 = .ok (.iaload, 1) := by decide +kernel
theorem dX12_lays_121 : decode cX12_lays 121 = .ok (.imul, 1) := by decide +kernel
theorem dX12_lays_122 : decode cX12_lays 122 = .ok (.iload 4, 2) := by decide +kernel
theorem dX12_lays_124 : decode cX12_lays 124 = .ok (.iadd, 1) := by decide +kernel
theorem dX12_lays_125 : decode cX12_lays 125 = .ok (.iconst 1, 1) := by decide +kernel
theorem dX12_lays_126 : decode cX12_lays 126 = .ok (.isub, 1) := by decide +kernel
theorem dX12_lays_127 : decode cX12_lays 127 = .ok (.iconst 1, 1) := by decide +kernel
theorem dX12_lays_128 : decode cX12_lays 128 = .ok (.bastore, 1) := by decide +kernel
theorem dX12_lays_129 : decode cX12_lays 129 = .ok (.iconst 1, 1) := by decide +kernel
theorem dX12_lays_130 : decode cX12_lays 130 = .ok (.istore_n 1, 1) := by decide +kernel
theorem dX12_lays_131 : decode cX12_lays 131 = .ok (.iinc 2 1, 3) := by decide +kernel
theorem dX12_lays_134 : decode cX12_lays 134 = .ok (.goto (-103), 3) := by decide +kernel
theorem dX12_lays_137 : decode cX12_lays 137 = .ok (.goto (-114), 3) := by decide +kernel
theorem dX12_lays_140 : decode cX12_lays 140 = .ok (.iconst 0, 1) := by decide +kernel
theorem dX12_lays_141 : decode cX12_lays 141 = .ok (.istore_n 2, 1) := by decide +kernel
theorem dX12_lays_142 : decode cX12_lays 142 = .ok (.iload_n 2, 1) := by decide +kernel
theorem dX12_lays_143 : decode cX12_lays 143 = .ok (.aload_n 0, 1) := by decide +kernel
theorem dX12_lays_144 : decode cX12_lays 144 = .ok (.getfield 183, 3) := by decide +kernel
theorem dX12_lays_147 : decode cX12_lays 147 = .ok (.if_icmp .ge 74, 3) := by decide +kernel
theorem dX12_lays_150 : decode cX12_lays 150 = .ok (.aload_n 0, 1) := by decide +kernel
theorem dX12_lays_151 : decode cX12_lays 151 = .ok (.getfield 135, 3) := by decide +kernel
theorem dX12_lays_154 : decode cX12_lays 154 = .ok (.iload_n 2, 1) := by decide +kernel
theorem dX12_lays_155 : decode cX12_lays 155 = .ok (.aload_n 0, 1) := by decide +kernel
theorem dX12_lays_156 : decode cX12_lays 156 = .ok (.getfield 22, 3) := by decide +kernel
theorem dX12_lays_159 : decode cX12_lays 159 = .ok (.iload_n 2, 1) := by decide +kernel
theorem dX12_lays_160 : decode cX12_lays 160 = .ok (.iaload, 1) := by decide +kernel
theorem dX12_lays_161 : decode cX12_lays 161 = .ok (.ifCond .lt 20, 3) := by decide +kernel
theorem dX12_lays_164 : decode cX12_lays 164 = .ok (.aload_n 0, 1) := by decide +kernel
theorem dX12_lays_165 : decode cX12_lays 165 = .ok (.getfield 31, 3) := by decide +kernel
theorem dX12_lays_168 : decode cX12_lays 168 = .ok (.iload_n 2, 1) := by decide +kernel
theorem dX12_lays_169 : decode cX12_lays 169 = .ok (.baload, 1) := by decide +kernel
theorem dX12_lays_170 : decode cX12_lays 170 = .ok (.ifCond .ne 7, 3) := by decide +kernel
theorem dX12_lays_173 : decode cX12_lays 173 = .ok (.iconst 1, 1) := by decide +kernel
theorem dX12_lays_174 : decode cX12_lays 174 = .ok (.goto 40, 3) := by decide +kernel
theorem dX12_lays_177 : decode cX12_lays 177 = .ok (.iconst 0, 1) := by decide +kernel
theorem dX12_lays_178 : decode cX12_lays 178 = .ok (.goto 36, 3) := by decide +kernel
theorem dX12_lays_181 : decode cX12_lays 181 = .ok (.aload_n 0, 1) := by decide +kernel
theorem dX12_lays_182 : decode cX12_lays 182 = .ok (.getfield 28, 3) := by decide +kernel
theorem dX12_lays_185 : decode cX12_lays 185 = .ok (.iload_n 2, 1) := by decide +kernel
theorem dX12_lays_186 : decode cX12_lays 186 = .ok (.iaload, 1) := by decide +kernel
theorem dX12_lays_187 : decode cX12_lays 187 = .ok (.ifCond .le 26, 3) := by decide +kernel
theorem dX12_lays_190 : decode cX12_lays 190 = .ok (.aload_n 0, 1) := by decide +kernel
theorem dX12_lays_191 : decode cX12_lays 191 = .ok (.getfield 28, 3) := by decide +kernel
theorem dX12_lays_194 : decode cX12_lays 194 = .ok (.iload_n 2, 1) := by decide +kernel
theorem dX12_lays_195 : decode cX12_lays 195 = .ok (.iaload, 1) := by decide +kernel
theorem dX12_lays_196 : decode cX12_lays 196 = .ok (.aload_n 0, 1) := by decide +kernel
theorem dX12_lays_197 : decode cX12_lays 197 = .ok (.aload_n 0, 1) := by decide +kernel
theorem dX12_lays_198 : decode cX12_lays 198 = .ok (.getfield 25, 3) := by decide +kernel
theorem dX12_lays_201 : decode cX12_lays 201 = .ok (.iload_n 2, 1) := by decide +kernel
theorem dX12_lays_202 : decode cX12_lays 202 = .ok (.iaload, 1) := by decide +kernel
theorem dX12_lays_203 : decode cX12_lays 203 = .ok (.invokevirtual 202, 3) := by decide +kernel
theorem dX12_lays_206 : decode cX12_lays 206 = .ok (.if_icmp .ne 7, 3) := by decide +kernel
theorem dX12_lays_209 : decode cX12_lays 209 = .ok (.iconst 1, 1) := by decide +kernel
theorem dX12_lays_210 : decode cX12_lays 210 = .ok (.goto 4, 3) := by decide +kernel
theorem dX12_lays_213 : decode cX12_lays 213 = .ok (.iconst 0, 1) := by decide +kernel
theorem dX12_lays_214 : decode cX12_lays 214 = .ok (.bastore, 1) := by decide +kernel
theorem dX12_lays_215 : decode cX12_lays 215 = .ok (.iinc 2 1, 3) := by decide +kernel
theorem dX12_lays_218 : decode cX12_lays 218 = .ok (.goto (-76), 3) := by decide +kernel
theorem dX12_lays_221 : decode cX12_lays 221 = .ok (.iconst 0, 1) := by decide +kernel
theorem dX12_lays_222 : decode cX12_lays 222 = .ok (.istore_n 2, 1) := by decide +kernel
theorem dX12_lays_223 : decode cX12_lays 223 = .ok (.iload_n 2, 1) := by decide +kernel
theorem dX12_lays_224 : decode cX12_lays 224 = .ok (.aload_n 0, 1) := by decide +kernel
theorem dX12_lays_225 : decode cX12_lays 225 = .ok (.getfield 183, 3) := by decide +kernel
theorem dX12_lays_228 : decode cX12_lays 228 = .ok (.if_icmp .ge 70, 3) := by decide +kernel
theorem dX12_lays_231 : decode cX12_lays 231 = .ok (.aload_n 0, 1) := by decide +kernel
theorem dX12_lays_232 : decode cX12_lays 232 = .ok (.getfield 138, 3) := by decide +kernel
theorem dX12_lays_235 : decode cX12_lays 235 = .ok (.iload_n 2, 1) := by decide +kernel
theorem dX12_lays_236 : decode cX12_lays 236 = .ok (.aload_n 0, 1) := by decide +kernel
theorem dX12_lays_237 : decode cX12_lays 237 = .ok (.getfield 7, 3) := by decide +kernel
theorem dX12_lays_240 : decode cX12_lays 240 = .ok (.iload_n 2, 1) := by decide +kernel
theorem dX12_lays_241 : decode cX12_lays 241 = .ok (.iaload, 1) := by decide +kernel
theorem dX12_lays_242 : decode cX12_lays 242 = .ok (.bipush 7, 2) := by decide +kernel
theorem dX12_lays_244 : decode cX12_lays 244 = .ok (.if_icmp .ge 11, 3) := by decide +kernel
theorem dX12_lays_247 : decode cX12_lays 247 = .ok (.aload_n 0, 1) := by decide +kernel
theorem dX12_lays_248 : decode cX12_lays 248 = .ok (.iload_n 2, 1) := by decide +kernel
theorem dX12_lays_249 : decode cX12_lays 249 = .ok (.invokevirtual 206, 3) := by decide +kernel
theorem dX12_lays_252 : decode cX12_lays 252 = .ok (.goto 4, 3) := by decide +kernel
theorem dX12_lays_255 : decode cX12_lays 255 = .ok (.iconst (-1), 1) := by decide +kernel
theorem dX12_lays_256 : decode cX12_lays 256 = .ok (.iastore, 1) := by decide +kernel
theorem dX12_lays_257 : decode cX12_lays 257 = .ok (.aload_n 0, 1) := by decide +kernel
theorem dX12_lays_258 : decode cX12_lays 258 = .ok (.getfield 141, 3) := by decide +kernel
theorem dX12_lays_261 : decode cX12_lays 261 = .ok (.iload_n 2, 1) := by decide +kernel
theorem dX12_lays_262 : decode cX12_lays 262 = .ok (.aload_n 0, 1) := by decide +kernel
theorem dX12_lays_263 : decode cX12_lays 263 = .ok (.getfield 135, 3) := by decide +kernel
theorem dX12_lays_266 : decode cX12_lays 266 = .ok (.iload_n 2, 1) := by decide +kernel
theorem dX12_lays_267 : decode cX12_lays 267 = .ok (.baload, 1) := by decide +kernel
theorem dX12_lays_268 : decode cX12_lays 268 = .ok (.ifCond .eq 22, 3) := by decide +kernel
theorem dX12_lays_271 : decode cX12_lays 271 = .ok (.aload_n 0, 1) := by decide +kernel
theorem dX12_lays_272 : decode cX12_lays 272 = .ok (.getfield 7, 3) := by decide +kernel
theorem dX12_lays_275 : decode cX12_lays 275 = .ok (.iload_n 2, 1) := by decide +kernel
theorem dX12_lays_276 : decode cX12_lays 276 = .ok (.iaload, 1) := by decide +kernel
theorem dX12_lays_277 : decode cX12_lays 277 = .ok (.bipush 7, 2) := by decide +kernel
theorem dX12_lays_279 : decode cX12_lays 279 = .ok (.if_icmp .ge 11, 3) := by decide +kernel
theorem dX12_lays_282 : decode cX12_lays 282 = .ok (.aload_n 0, 1) := by decide +kernel
theorem dX12_lays_283 : decode cX12_lays 283 = .ok (.iload_n 2, 1) := by decide +kernel
theorem dX12_lays_284 : decode cX12_lays 284 = .ok (.invokevirtual 209, 3) := by decide +kernel
theorem dX12_lays_287 : decode cX12_lays 287 = .ok (.goto 4, 3) := by decide +kernel
theorem dX12_lays_290 : decode cX12_lays 290 = .ok (.iconst 0, 1) := by decide +kernel
theorem dX12_lays_291 : decode cX12_lays 291 = .ok (.iastore, 1) := by decide +kernel
theorem dX12_lays_292 : decode cX12_lays 292 = .ok (.iinc 2 1, 3) := by decide +kernel
theorem dX12_lays_295 : decode cX12_lays 295 = .ok (.goto (-72), 3) := by decide +kernel
theorem dX12_lays_298 : decode cX12_lays 298 = .ok (.return_, 1) := by decide +kernel
theorem dX12_chosen_0 : decode cX12_chosen 0 = .ok (.iconst 0, 1) := by decide +kernel
theorem dX12_chosen_1 : decode cX12_chosen 1 = .ok (.istore_n 2, 1) := by decide +kernel
theorem dX12_chosen_2 : decode cX12_chosen 2 = .ok (.iconst 0, 1) := by decide +kernel
theorem dX12_chosen_3 : decode cX12_chosen 3 = .ok (.istore_n 3, 1) := by decide +kernel
theorem dX12_chosen_4 : decode cX12_chosen 4 = .ok (.iload_n 3, 1) := by decide +kernel
theorem dX12_chosen_5 : decode cX12_chosen 5 = .ok (.iconst 3, 1) := by decide +kernel
theorem dX12_chosen_6 : decode cX12_chosen 6 = .ok (.if_icmp .ge 30, 3) := by decide +kernel
theorem dX12_chosen_9 : decode cX12_chosen 9 = .ok (.aload_n 0, 1) := by decide +kernel
theorem dX12_chosen_10 : decode cX12_chosen 10 = .ok (.getfield 132, 3) := by decide +kernel
theorem dX12_chosen_13 : decode cX12_chosen 13 = .ok (.iconst 3, 1) := by decide +kernel
theorem dX12_chosen_14 : decode cX12_chosen 14 = .ok (.iload_n 1, 1) := by decide +kernel
theorem dX12_chosen_15 : decode cX12_chosen 15 = .ok (.imul, 1) := by decide +kernel
theorem dX12_chosen_16 : decode cX12_chosen 16 = .ok (.iload_n 3, 1) := by decide +kernel
theorem dX12_chosen_17 : decode cX12_chosen 17 = .ok (.iadd, 1) := by decide +kernel
theorem dX12_chosen_18 : decode cX12_chosen 18 = .ok (.baload, 1) := by decide +kernel
theorem dX12_chosen_19 : decode cX12_chosen 19 = .ok (.ifCond .eq 9, 3) := by decide +kernel
theorem dX12_chosen_22 : decode cX12_chosen 22 = .ok (.iload_n 3, 1) := by decide +kernel
theorem dX12_chosen_23 : decode cX12_chosen 23 = .ok (.iconst 1, 1) := by decide +kernel
theorem dX12_chosen_24 : decode cX12_chosen 24 = .ok (.iadd, 1) := by decide +kernel
theorem dX12_chosen_25 : decode cX12_chosen 25 = .ok (.goto 4, 3) := by decide +kernel
theorem dX12_chosen_28 : decode cX12_chosen 28 = .ok (.iload_n 2, 1) := by decide +kernel
theorem dX12_chosen_29 : decode cX12_chosen 29 = .ok (.istore_n 2, 1) := by decide +kernel
theorem dX12_chosen_30 : decode cX12_chosen 30 = .ok (.iinc 3 1, 3) := by decide +kernel
theorem dX12_chosen_33 : decode cX12_chosen 33 = .ok (.goto (-29), 3) := by decide +kernel
theorem dX12_chosen_36 : decode cX12_chosen 36 = .ok (.iload_n 2, 1) := by decide +kernel
theorem dX12_chosen_37 : decode cX12_chosen 37 = .ok (.ireturn, 1) := by decide +kernel
theorem dX12_isTogether_0 : decode cX12_isTogether 0 = .ok (.aload_n 0, 1) := by decide +kernel
theorem dX12_isTogether_1 : decode cX12_isTogether 1 = .ok (.getfield 22, 3) := by decide +kernel
theorem dX12_isTogether_4 : decode cX12_isTogether 4 = .ok (.iload_n 1, 1) := by decide +kernel
theorem dX12_isTogether_5 : decode cX12_isTogether 5 = .ok (.iaload, 1) := by decide +kernel
theorem dX12_isTogether_6 : decode cX12_isTogether 6 = .ok (.aload_n 0, 1) := by decide +kernel
theorem dX12_isTogether_7 : decode cX12_isTogether 7 = .ok (.getfield 22, 3) := by decide +kernel
theorem dX12_isTogether_10 : decode cX12_isTogether 10 = .ok (.iload_n 2, 1) := by decide +kernel
theorem dX12_isTogether_11 : decode cX12_isTogether 11 = .ok (.iaload, 1) := by decide +kernel
theorem dX12_isTogether_12 : decode cX12_isTogether 12 = .ok (.if_icmp .ne 37, 3) := by decide +kernel
theorem dX12_isTogether_15 : decode cX12_isTogether 15 = .ok (.aload_n 0, 1) := by decide +kernel
theorem dX12_isTogether_16 : decode cX12_isTogether 16 = .ok (.getfield 25, 3) := by decide +kernel
theorem dX12_isTogether_19 : decode cX12_isTogether 19 = .ok (.iload_n 1, 1) := by decide +kernel
theorem dX12_isTogether_20 : decode cX12_isTogether 20 = .ok (.iaload, 1) := by decide +kernel
theorem dX12_isTogether_21 : decode cX12_isTogether 21 = .ok (.aload_n 0, 1) := by decide +kernel
theorem dX12_isTogether_22 : decode cX12_isTogether 22 = .ok (.getfield 25, 3) := by decide +kernel
theorem dX12_isTogether_25 : decode cX12_isTogether 25 = .ok (.iload_n 2, 1) := by decide +kernel
theorem dX12_isTogether_26 : decode cX12_isTogether 26 = .ok (.iaload, 1) := by decide +kernel
theorem dX12_isTogether_27 : decode cX12_isTogether 27 = .ok (.if_icmp .ne 22, 3) := by decide +kernel
theorem dX12_isTogether_30 : decode cX12_isTogether 30 = .ok (.aload_n 0, 1) := by decide +kernel
theorem dX12_isTogether_31 : decode cX12_isTogether 31 = .ok (.getfield 28, 3) := by decide +kernel
theorem dX12_isTogether_34 : decode cX12_isTogether 34 = .ok (.iload_n 1, 1) := by decide +kernel
theorem dX12_isTogether_35 : decode cX12_isTogether 35 = .ok (.iaload, 1) := by decide +kernel
theorem dX12_isTogether_36 : decode cX12_isTogether 36 = .ok (.aload_n 0, 1) := by decide +kernel
theorem dX12_isTogether_37 : decode cX12_isTogether 37 = .ok (.getfield 28, 3) := by decide +kernel
theorem dX12_isTogether_40 : decode cX12_isTogether 40 = .ok (.iload_n 2, 1) := by decide +kernel
theorem dX12_isTogether_41 : decode cX12_isTogether 41 = .ok (.iaload, 1) := by decide +kernel
theorem dX12_isTogether_42 : decode cX12_isTogether 42 = .ok (.if_icmp .ne 7, 3) := by decide +kernel
theorem dX12_isTogether_45 : decode cX12_isTogether 45 = .ok (.iconst 1, 1) := by decide +kernel
theorem dX12_isTogether_46 : decode cX12_isTogether 46 = .ok (.goto 4, 3) := by decide +kernel
theorem dX12_isTogether_49 : decode cX12_isTogether 49 = .ok (.iconst 0, 1) := by decide +kernel
theorem dX12_isTogether_50 : decode cX12_isTogether 50 = .ok (.ireturn, 1) := by decide +kernel
theorem dX12_guards_0 : decode cX12_guards 0 = .ok (.iconst (-1), 1) := by decide +kernel
theorem dX12_guards_1 : decode cX12_guards 1 = .ok (.istore_n 2, 1) := by decide +kernel
theorem dX12_guards_2 : decode cX12_guards 2 = .ok (.iconst 0, 1) := by decide +kernel
theorem dX12_guards_3 : decode cX12_guards 3 = .ok (.istore_n 3, 1) := by decide +kernel
theorem dX12_guards_4 : decode cX12_guards 4 = .ok (.iload_n 3, 1) := by decide +kernel
theorem dX12_guards_5 : decode cX12_guards 5 = .ok (.iload_n 1, 1) := by decide +kernel
theorem dX12_guards_6 : decode cX12_guards 6 = .ok (.if_icmp .ge 33, 3) := by decide +kernel
theorem dX12_guards_9 : decode cX12_guards 9 = .ok (.aload_n 0, 1) := by decide +kernel
theorem dX12_guards_10 : decode cX12_guards 10 = .ok (.getfield 135, 3) := by decide +kernel
theorem dX12_guards_13 : decode cX12_guards 13 = .ok (.iload_n 3, 1) := by decide +kernel
theorem dX12_guards_14 : decode cX12_guards 14 = .ok (.baload, 1) := by decide +kernel
theorem dX12_guards_15 : decode cX12_guards 15 = .ok (.ifCond .eq 16, 3) := by decide +kernel
theorem dX12_guards_18 : decode cX12_guards 18 = .ok (.aload_n 0, 1) := by decide +kernel
theorem dX12_guards_19 : decode cX12_guards 19 = .ok (.iload_n 1, 1) := by decide +kernel
theorem dX12_guards_20 : decode cX12_guards 20 = .ok (.iload_n 3, 1) := by decide +kernel
theorem dX12_guards_21 : decode cX12_guards 21 = .ok (.invokevirtual 212, 3) := by decide +kernel
theorem dX12_guards_24 : decode cX12_guards 24 = .ok (.ifCond .eq 7, 3) := by decide +kernel
theorem dX12_guards_27 : decode cX12_guards 27 = .ok (.iload_n 3, 1) := by decide +kernel
theorem dX12_guards_28 : decode cX12_guards 28 = .ok (.goto 4, 3) := by decide +kernel
theorem dX12_guards_31 : decode cX12_guards 31 = .ok (.iload_n 2, 1) := by decide +kernel
theorem dX12_guards_32 : decode cX12_guards 32 = .ok (.istore_n 2, 1) := by decide +kernel
theorem dX12_guards_33 : decode cX12_guards 33 = .ok (.iinc 3 1, 3) := by decide +kernel
theorem dX12_guards_36 : decode cX12_guards 36 = .ok (.goto (-32), 3) := by decide +kernel
theorem dX12_guards_39 : decode cX12_guards 39 = .ok (.iload_n 2, 1) := by decide +kernel
theorem dX12_guards_40 : decode cX12_guards 40 = .ok (.ifCond .lt 18, 3) := by decide +kernel
theorem dX12_guards_43 : decode cX12_guards 43 = .ok (.aload_n 0, 1) := by decide +kernel
theorem dX12_guards_44 : decode cX12_guards 44 = .ok (.getfield 7, 3) := by decide +kernel
theorem dX12_guards_47 : decode cX12_guards 47 = .ok (.iload_n 2, 1) := by decide +kernel
theorem dX12_guards_48 : decode cX12_guards 48 = .ok (.iaload, 1) := by decide +kernel
theorem dX12_guards_49 : decode cX12_guards 49 = .ok (.bipush 7, 2) := by decide +kernel
theorem dX12_guards_51 : decode cX12_guards 51 = .ok (.if_icmp .ne 7, 3) := by decide +kernel
theorem dX12_guards_54 : decode cX12_guards 54 = .ok (.iload_n 2, 1) := by decide +kernel
theorem dX12_guards_55 : decode cX12_guards 55 = .ok (.goto 4, 3) := by decide +kernel
theorem dX12_guards_58 : decode cX12_guards 58 = .ok (.iconst (-1), 1) := by decide +kernel
theorem dX12_guards_59 : decode cX12_guards 59 = .ok (.ireturn, 1) := by decide +kernel
theorem dX12_isTold_0 : decode cX12_isTold 0 = .ok (.iconst 0, 1) := by decide +kernel
theorem dX12_isTold_1 : decode cX12_isTold 1 = .ok (.istore_n 3, 1) := by decide +kernel
theorem dX12_isTold_2 : decode cX12_isTold 2 = .ok (.iconst 0, 1) := by decide +kernel
theorem dX12_isTold_3 : decode cX12_isTold 3 = .ok (.istore 4, 2) := by decide +kernel
theorem dX12_isTold_5 : decode cX12_isTold 5 = .ok (.iload 4, 2) := by decide +kernel
theorem dX12_isTold_7 : decode cX12_isTold 7 = .ok (.aload_n 0, 1) := by decide +kernel
theorem dX12_isTold_8 : decode cX12_isTold 8 = .ok (.getfield 183, 3) := by decide +kernel
theorem dX12_isTold_11 : decode cX12_isTold 11 = .ok (.if_icmp .ge 53, 3) := by decide +kernel
theorem dX12_isTold_14 : decode cX12_isTold 14 = .ok (.iload_n 3, 1) := by decide +kernel
theorem dX12_isTold_15 : decode cX12_isTold 15 = .ok (.aload_n 0, 1) := by decide +kernel
theorem dX12_isTold_16 : decode cX12_isTold 16 = .ok (.getfield 135, 3) := by decide +kernel
theorem dX12_isTold_19 : decode cX12_isTold 19 = .ok (.iload 4, 2) := by decide +kernel
theorem dX12_isTold_21 : decode cX12_isTold 21 = .ok (.baload, 1) := by decide +kernel
theorem dX12_isTold_22 : decode cX12_isTold 22 = .ok (.ifCond .eq 33, 3) := by decide +kernel
theorem dX12_isTold_25 : decode cX12_isTold 25 = .ok (.aload_n 0, 1) := by decide +kernel
theorem dX12_isTold_26 : decode cX12_isTold 26 = .ok (.getfield 7, 3) := by decide +kernel
theorem dX12_isTold_29 : decode cX12_isTold 29 = .ok (.iload 4, 2) := by decide +kernel
theorem dX12_isTold_31 : decode cX12_isTold 31 = .ok (.iaload, 1) := by decide +kernel
theorem dX12_isTold_32 : decode cX12_isTold 32 = .ok (.iload_n 1, 1) := by decide +kernel
theorem dX12_isTold_33 : decode cX12_isTold 33 = .ok (.if_icmp .ne 22, 3) := by decide +kernel
theorem dX12_isTold_36 : decode cX12_isTold 36 = .ok (.iload_n 2, 1) := by decide +kernel
theorem dX12_isTold_37 : decode cX12_isTold 37 = .ok (.ifCond .lt 14, 3) := by decide +kernel
theorem dX12_isTold_40 : decode cX12_isTold 40 = .ok (.aload_n 0, 1) := by decide +kernel
theorem dX12_isTold_41 : decode cX12_isTold 41 = .ok (.getfield 13, 3) := by decide +kernel
theorem dX12_isTold_44 : decode cX12_isTold 44 = .ok (.iload 4, 2) := by decide +kernel
theorem dX12_isTold_46 : decode cX12_isTold 46 = .ok (.iaload, 1) := by decide +kernel
theorem dX12_isTold_47 : decode cX12_isTold 47 = .ok (.iload_n 2, 1) := by decide +kernel
theorem dX12_isTold_48 : decode cX12_isTold 48 = .ok (.if_icmp .ne 7, 3) := by decide +kernel
theorem dX12_isTold_51 : decode cX12_isTold 51 = .ok (.iconst 1, 1) := by decide +kernel
theorem dX12_isTold_52 : decode cX12_isTold 52 = .ok (.goto 4, 3) := by decide +kernel
theorem dX12_isTold_55 : decode cX12_isTold 55 = .ok (.iconst 0, 1) := by decide +kernel
theorem dX12_isTold_56 : decode cX12_isTold 56 = .ok (.ior, 1) := by decide +kernel
theorem dX12_isTold_57 : decode cX12_isTold 57 = .ok (.istore_n 3, 1) := by decide +kernel
theorem dX12_isTold_58 : decode cX12_isTold 58 = .ok (.iinc 4 1, 3) := by decide +kernel
theorem dX12_isTold_61 : decode cX12_isTold 61 = .ok (.goto (-56), 3) := by decide +kernel
theorem dX12_isTold_64 : decode cX12_isTold 64 = .ok (.iload_n 3, 1) := by decide +kernel
theorem dX12_isTold_65 : decode cX12_isTold 65 = .ok (.ireturn, 1) := by decide +kernel
theorem dX12_isHidden_0 : decode cX12_isHidden 0 = .ok (.iconst 0, 1) := by decide +kernel
theorem dX12_isHidden_1 : decode cX12_isHidden 1 = .ok (.istore_n 3, 1) := by decide +kernel
theorem dX12_isHidden_2 : decode cX12_isHidden 2 = .ok (.iconst 0, 1) := by decide +kernel
theorem dX12_isHidden_3 : decode cX12_isHidden 3 = .ok (.istore 4, 2) := by decide +kernel
theorem dX12_isHidden_5 : decode cX12_isHidden 5 = .ok (.iload 4, 2) := by decide +kernel
theorem dX12_isHidden_7 : decode cX12_isHidden 7 = .ok (.aload_n 0, 1) := by decide +kernel
theorem dX12_isHidden_8 : decode cX12_isHidden 8 = .ok (.getfield 183, 3) := by decide +kernel
theorem dX12_isHidden_11 : decode cX12_isHidden 11 = .ok (.if_icmp .ge 82, 3) := by decide +kernel
theorem dX12_isHidden_14 : decode cX12_isHidden 14 = .ok (.iload_n 3, 1) := by decide +kernel
theorem dX12_isHidden_15 : decode cX12_isHidden 15 = .ok (.aload_n 0, 1) := by decide +kernel
theorem dX12_isHidden_16 : decode cX12_isHidden 16 = .ok (.getfield 135, 3) := by decide +kernel
theorem dX12_isHidden_19 : decode cX12_isHidden 19 = .ok (.iload 4, 2) := by decide +kernel
theorem dX12_isHidden_21 : decode cX12_isHidden 21 = .ok (.baload, 1) := by decide +kernel
theorem dX12_isHidden_22 : decode cX12_isHidden 22 = .ok (.ifCond .eq 62, 3) := by decide +kernel
theorem dX12_isHidden_25 : decode cX12_isHidden 25 = .ok (.aload_n 0, 1) := by decide +kernel
theorem dX12_isHidden_26 : decode cX12_isHidden 26 = .ok (.getfield 7, 3) := by decide +kernel
theorem dX12_isHidden_29 : decode cX12_isHidden 29 = .ok (.iload 4, 2) := by decide +kernel
theorem dX12_isHidden_31 : decode cX12_isHidden 31 = .ok (.iaload, 1) := by decide +kernel
theorem dX12_isHidden_32 : decode cX12_isHidden 32 = .ok (.bipush 10, 2) := by decide +kernel
theorem dX12_isHidden_34 : decode cX12_isHidden 34 = .ok (.if_icmp .ne 50, 3) := by decide +kernel
theorem dX12_isHidden_37 : decode cX12_isHidden 37 = .ok (.aload_n 0, 1) := by decide +kernel
theorem dX12_isHidden_38 : decode cX12_isHidden 38 = .ok (.getfield 13, 3) := by decide +kernel
theorem dX12_isHidden_41 : decode cX12_isHidden 41 = .ok (.iload 4, 2) := by decide +kernel
theorem dX12_isHidden_43 : decode cX12_isHidden 43 = .ok (.iaload, 1) := by decide +kernel
theorem dX12_isHidden_44 : decode cX12_isHidden 44 = .ok (.iload_n 1, 1) := by decide +kernel
theorem dX12_isHidden_45 : decode cX12_isHidden 45 = .ok (.if_icmp .ne 39, 3) := by decide +kernel
theorem dX12_isHidden_48 : decode cX12_isHidden 48 = .ok (.aload_n 0, 1) := by decide +kernel
theorem dX12_isHidden_49 : decode cX12_isHidden 49 = .ok (.getfield 22, 3) := by decide +kernel
theorem dX12_isHidden_52 : decode cX12_isHidden 52 = .ok (.iload 4, 2) := by decide +kernel
theorem dX12_isHidden_54 : decode cX12_isHidden 54 = .ok (.iaload, 1) := by decide +kernel
theorem dX12_isHidden_55 : decode cX12_isHidden 55 = .ok (.aload_n 0, 1) := by decide +kernel
theorem dX12_isHidden_56 : decode cX12_isHidden 56 = .ok (.getfield 22, 3) := by decide +kernel
theorem dX12_isHidden_59 : decode cX12_isHidden 59 = .ok (.iload_n 2, 1) := by decide +kernel
theorem dX12_isHidden_60 : decode cX12_isHidden 60 = .ok (.iaload, 1) := by decide +kernel
theorem dX12_isHidden_61 : decode cX12_isHidden 61 = .ok (.if_icmp .ne 19, 3) := by decide +kernel
theorem dX12_isHidden_64 : decode cX12_isHidden 64 = .ok (.aload_n 0, 1) := by decide +kernel
theorem dX12_isHidden_65 : decode cX12_isHidden 65 = .ok (.getfield 25, 3) := by decide +kernel
theorem dX12_isHidden_68 : decode cX12_isHidden 68 = .ok (.iload 4, 2) := by decide +kernel
theorem dX12_isHidden_70 : decode cX12_isHidden 70 = .ok (.iaload, 1) := by decide +kernel
theorem dX12_isHidden_71 : decode cX12_isHidden 71 = .ok (.aload_n 0, 1) := by decide +kernel
theorem dX12_isHidden_72 : decode cX12_isHidden 72 = .ok (.getfield 25, 3) := by decide +kernel
theorem dX12_isHidden_75 : decode cX12_isHidden 75 = .ok (.iload_n 2, 1) := by decide +kernel
theorem dX12_isHidden_76 : decode cX12_isHidden 76 = .ok (.iaload, 1) := by decide +kernel
theorem dX12_isHidden_77 : decode cX12_isHidden 77 = .ok (.if_icmp .eq 7, 3) := by decide +kernel
theorem dX12_isHidden_80 : decode cX12_isHidden 80 = .ok (.iconst 1, 1) := by decide +kernel
theorem dX12_isHidden_81 : decode cX12_isHidden 81 = .ok (.goto 4, 3) := by decide +kernel
theorem dX12_isHidden_84 : decode cX12_isHidden 84 = .ok (.iconst 0, 1) := by decide +kernel
theorem dX12_isHidden_85 : decode cX12_isHidden 85 = .ok (.ior, 1) := by decide +kernel
theorem dX12_isHidden_86 : decode cX12_isHidden 86 = .ok (.istore_n 3, 1) := by decide +kernel
theorem dX12_isHidden_87 : decode cX12_isHidden 87 = .ok (.iinc 4 1, 3) := by decide +kernel
theorem dX12_isHidden_90 : decode cX12_isHidden 90 = .ok (.goto (-85), 3) := by decide +kernel
theorem dX12_isHidden_93 : decode cX12_isHidden 93 = .ok (.iload_n 3, 1) := by decide +kernel
theorem dX12_isHidden_94 : decode cX12_isHidden 94 = .ok (.ireturn, 1) := by decide +kernel
theorem dX12_faults_0 : decode cX12_faults 0 = .ok (.aload_n 0, 1) := by decide +kernel
theorem dX12_faults_1 : decode cX12_faults 1 = .ok (.getfield 13, 3) := by decide +kernel
theorem dX12_faults_4 : decode cX12_faults 4 = .ok (.iload_n 1, 1) := by decide +kernel
theorem dX12_faults_5 : decode cX12_faults 5 = .ok (.iaload, 1) := by decide +kernel
theorem dX12_faults_6 : decode cX12_faults 6 = .ok (.istore_n 2, 1) := by decide +kernel
theorem dX12_faults_7 : decode cX12_faults 7 = .ok (.aload_n 0, 1) := by decide +kernel
theorem dX12_faults_8 : decode cX12_faults 8 = .ok (.getfield 7, 3) := by decide +kernel
theorem dX12_faults_11 : decode cX12_faults 11 = .ok (.iload_n 1, 1) := by decide +kernel
theorem dX12_faults_12 : decode cX12_faults 12 = .ok (.iaload, 1) := by decide +kernel
theorem dX12_faults_13 : decode cX12_faults 13 = .ok (.invokestatic 177, 3) := by decide +kernel
theorem dX12_faults_16 : decode cX12_faults 16 = .ok (.istore_n 3, 1) := by decide +kernel
theorem dX12_faults_17 : decode cX12_faults 17 = .ok (.aload_n 0, 1) := by decide +kernel
theorem dX12_faults_18 : decode cX12_faults 18 = .ok (.bipush 9, 2) := by decide +kernel
theorem dX12_faults_20 : decode cX12_faults 20 = .ok (.iconst (-1), 1) := by decide +kernel
theorem dX12_faults_21 : decode cX12_faults 21 = .ok (.invokevirtual 216, 3) := by decide +kernel
theorem dX12_faults_24 : decode cX12_faults 24 = .ok (.ifCond .eq 34, 3) := by decide +kernel
theorem dX12_faults_27 : decode cX12_faults 27 = .ok (.aload_n 0, 1) := by decide +kernel
theorem dX12_faults_28 : decode cX12_faults 28 = .ok (.bipush 8, 2) := by decide +kernel
theorem dX12_faults_30 : decode cX12_faults 30 = .ok (.iload_n 2, 1) := by decide +kernel
theorem dX12_faults_31 : decode cX12_faults 31 = .ok (.invokevirtual 216, 3) := by decide +kernel
theorem dX12_faults_34 : decode cX12_faults 34 = .ok (.ifCond .eq 22, 3) := by decide +kernel
theorem dX12_faults_37 : decode cX12_faults 37 = .ok (.iload_n 3, 1) := by decide +kernel
theorem dX12_faults_38 : decode cX12_faults 38 = .ok (.ifCond .eq 20, 3) := by decide +kernel
theorem dX12_faults_41 : decode cX12_faults 41 = .ok (.aload_n 0, 1) := by decide +kernel
theorem dX12_faults_42 : decode cX12_faults 42 = .ok (.bipush 8, 2) := by decide +kernel
theorem dX12_faults_44 : decode cX12_faults 44 = .ok (.aload_n 0, 1) := by decide +kernel
theorem dX12_faults_45 : decode cX12_faults 45 = .ok (.getfield 16, 3) := by decide +kernel
theorem dX12_faults_48 : decode cX12_faults 48 = .ok (.iload_n 1, 1) := by decide +kernel
theorem dX12_faults_49 : decode cX12_faults 49 = .ok (.iaload, 1) := by decide +kernel
theorem dX12_faults_50 : decode cX12_faults 50 = .ok (.invokevirtual 216, 3) := by decide +kernel
theorem dX12_faults_53 : decode cX12_faults 53 = .ok (.ifCond .ne 5, 3) := by decide +kernel
theorem dX12_faults_56 : decode cX12_faults 56 = .ok (.iconst 1, 1) := by decide +kernel
theorem dX12_faults_57 : decode cX12_faults 57 = .ok (.ireturn, 1) := by decide +kernel
theorem dX12_faults_58 : decode cX12_faults 58 = .ok (.aload_n 0, 1) := by decide +kernel
theorem dX12_faults_59 : decode cX12_faults 59 = .ok (.iload_n 2, 1) := by decide +kernel
theorem dX12_faults_60 : decode cX12_faults 60 = .ok (.iload_n 1, 1) := by decide +kernel
theorem dX12_faults_61 : decode cX12_faults 61 = .ok (.invokevirtual 219, 3) := by decide +kernel
theorem dX12_faults_64 : decode cX12_faults 64 = .ok (.ifCond .ne 21, 3) := by decide +kernel
theorem dX12_faults_67 : decode cX12_faults 67 = .ok (.iload_n 3, 1) := by decide +kernel
theorem dX12_faults_68 : decode cX12_faults 68 = .ok (.ifCond .eq 19, 3) := by decide +kernel
theorem dX12_faults_71 : decode cX12_faults 71 = .ok (.aload_n 0, 1) := by decide +kernel
theorem dX12_faults_72 : decode cX12_faults 72 = .ok (.aload_n 0, 1) := by decide +kernel
theorem dX12_faults_73 : decode cX12_faults 73 = .ok (.getfield 16, 3) := by decide +kernel
theorem dX12_faults_76 : decode cX12_faults 76 = .ok (.iload_n 1, 1) := by decide +kernel
theorem dX12_faults_77 : decode cX12_faults 77 = .ok (.iaload, 1) := by decide +kernel
theorem dX12_faults_78 : decode cX12_faults 78 = .ok (.iload_n 1, 1) := by decide +kernel
theorem dX12_faults_79 : decode cX12_faults 79 = .ok (.invokevirtual 219, 3) := by decide +kernel
theorem dX12_faults_82 : decode cX12_faults 82 = .ok (.ifCond .eq 5, 3) := by decide +kernel
theorem dX12_faults_85 : decode cX12_faults 85 = .ok (.iconst 2, 1) := by decide +kernel
theorem dX12_faults_86 : decode cX12_faults 86 = .ok (.ireturn, 1) := by decide +kernel
theorem dX12_faults_87 : decode cX12_faults 87 = .ok (.aload_n 0, 1) := by decide +kernel
theorem dX12_faults_88 : decode cX12_faults 88 = .ok (.getfield 41, 3) := by decide +kernel
theorem dX12_faults_91 : decode cX12_faults 91 = .ok (.iload_n 2, 1) := by decide +kernel
theorem dX12_faults_92 : decode cX12_faults 92 = .ok (.iaload, 1) := by decide +kernel
theorem dX12_faults_93 : decode cX12_faults 93 = .ok (.ifCond .eq 13, 3) := by decide +kernel
theorem dX12_faults_96 : decode cX12_faults 96 = .ok (.aload_n 0, 1) := by decide +kernel
theorem dX12_faults_97 : decode cX12_faults 97 = .ok (.getfield 7, 3) := by decide +kernel
theorem dX12_faults_100 : decode cX12_faults 100 = .ok (.iload_n 1, 1) := by decide +kernel
theorem dX12_faults_101 : decode cX12_faults 101 = .ok (.iaload, 1) := by decide +kernel
theorem dX12_faults_102 : decode cX12_faults 102 = .ok (.iconst 4, 1) := by decide +kernel
theorem dX12_faults_103 : decode cX12_faults 103 = .ok (.if_icmp .ne 7, 3) := by decide +kernel
theorem dX12_faults_106 : decode cX12_faults 106 = .ok (.iconst 1, 1) := by decide +kernel
theorem dX12_faults_107 : decode cX12_faults 107 = .ok (.goto 4, 3) := by decide +kernel
theorem dX12_faults_110 : decode cX12_faults 110 = .ok (.iconst 0, 1) := by decide +kernel
theorem dX12_faults_111 : decode cX12_faults 111 = .ok (.istore 4, 2) := by decide +kernel
theorem dX12_faults_113 : decode cX12_faults 113 = .ok (.iload 4, 2) := by decide +kernel
theorem dX12_faults_115 : decode cX12_faults 115 = .ok (.ifCond .ne 64, 3) := by decide +kernel
theorem dX12_faults_118 : decode cX12_faults 118 = .ok (.aload_n 0, 1) := by decide +kernel
theorem dX12_faults_119 : decode cX12_faults 119 = .ok (.getfield 22, 3) := by decide +kernel
theorem dX12_faults_122 : decode cX12_faults 122 = .ok (.iload_n 1, 1) := by decide +kernel
theorem dX12_faults_123 : decode cX12_faults 123 = .ok (.iaload, 1) := by decide +kernel
theorem dX12_faults_124 : decode cX12_faults 124 = .ok (.ifCond .lt 55, 3) := by decide +kernel
theorem dX12_faults_127 : decode cX12_faults 127 = .ok (.aload_n 0, 1) := by decide +kernel
theorem dX12_faults_128 : decode cX12_faults 128 = .ok (.getfield 38, 3) := by decide +kernel
theorem dX12_faults_131 : decode cX12_faults 131 = .ok (.aload_n 0, 1) := by decide +kernel
theorem dX12_faults_132 : decode cX12_faults 132 = .ok (.getfield 22, 3) := by decide +kernel
theorem dX12_faults_135 : decode cX12_faults 135 = .ok (.iload_n 1, 1) := by decide +kernel
theorem dX12_faults_136 : decode cX12_faults 136 = .ok (.iaload, 1) := by decide +kernel
theorem dX12_faults_137 : decode cX12_faults 137 = .ok (.iaload, 1) := by decide +kernel
theorem dX12_faults_138 : decode cX12_faults 138 = .ok (.aload_n 0, 1) := by decide +kernel
theorem dX12_faults_139 : decode cX12_faults 139 = .ok (.getfield 41, 3) := by decide +kernel
theorem dX12_faults_142 : decode cX12_faults 142 = .ok (.iload_n 2, 1) := by decide +kernel
theorem dX12_faults_143 : decode cX12_faults 143 = .ok (.iaload, 1) := by decide +kernel
theorem dX12_faults_144 : decode cX12_faults 144 = .ok (.iconst 1, 1) := by decide +kernel
theorem dX12_faults_145 : decode cX12_faults 145 = .ok (.isub, 1) := by decide +kernel
theorem dX12_faults_146 : decode cX12_faults 146 = .ok (.if_icmp .eq 26, 3) := by decide +kernel
theorem dX12_faults_149 : decode cX12_faults 149 = .ok (.aload_n 0, 1) := by decide +kernel
theorem dX12_faults_150 : decode cX12_faults 150 = .ok (.getfield 193, 3) := by decide +kernel
theorem dX12_faults_153 : decode cX12_faults 153 = .ok (.aload_n 0, 1) := by decide +kernel
theorem dX12_faults_154 : decode cX12_faults 154 = .ok (.getfield 44, 3) := by decide +kernel
theorem dX12_faults_157 : decode cX12_faults 157 = .ok (.bipush 10, 2) := by decide +kernel
theorem dX12_faults_159 : decode cX12_faults 159 = .ok (.aload_n 0, 1) := by decide +kernel
theorem dX12_faults_160 : decode cX12_faults 160 = .ok (.getfield 22, 3) := by decide +kernel
theorem dX12_faults_163 : decode cX12_faults 163 = .ok (.iload_n 1, 1) := by decide +kernel
theorem dX12_faults_164 : decode cX12_faults 164 = .ok (.iaload, 1) := by decide +kernel
theorem dX12_faults_165 : decode cX12_faults 165 = .ok (.imul, 1) := by decide +kernel
theorem dX12_faults_166 : decode cX12_faults 166 = .ok (.iload_n 2, 1) := by decide +kernel
theorem dX12_faults_167 : decode cX12_faults 167 = .ok (.iadd, 1) := by decide +kernel
theorem dX12_faults_168 : decode cX12_faults 168 = .ok (.iaload, 1) := by decide +kernel
theorem dX12_faults_169 : decode cX12_faults 169 = .ok (.if_icmp .ge 7, 3) := by decide +kernel
theorem dX12_faults_172 : decode cX12_faults 172 = .ok (.iconst 1, 1) := by decide +kernel
theorem dX12_faults_173 : decode cX12_faults 173 = .ok (.goto 4, 3) := by decide +kernel
theorem dX12_faults_176 : decode cX12_faults 176 = .ok (.iconst 0, 1) := by decide +kernel
theorem dX12_faults_177 : decode cX12_faults 177 = .ok (.istore 4, 2) := by decide +kernel
theorem dX12_faults_179 : decode cX12_faults 179 = .ok (.iload 4, 2) := by decide +kernel
theorem dX12_faults_181 : decode cX12_faults 181 = .ok (.ifCond .eq 7, 3) := by decide +kernel
theorem dX12_faults_184 : decode cX12_faults 184 = .ok (.iconst 0, 1) := by decide +kernel
theorem dX12_faults_185 : decode cX12_faults 185 = .ok (.goto 4, 3) := by decide +kernel
theorem dX12_faults_188 : decode cX12_faults 188 = .ok (.iconst 3, 1) := by decide +kernel
theorem dX12_faults_189 : decode cX12_faults 189 = .ok (.ireturn, 1) := by decide +kernel
theorem dX12_shifted_0 : decode cX12_shifted 0 = .ok (.iload_n 2, 1) := by decide +kernel
theorem dX12_shifted_1 : decode cX12_shifted 1 = .ok (.ifCond .lt 9, 3) := by decide +kernel
theorem dX12_shifted_4 : decode cX12_shifted 4 = .ok (.lload_n 0, 1) := by decide +kernel
theorem dX12_shifted_5 : decode cX12_shifted 5 = .ok (.iload_n 2, 1) := by decide +kernel
theorem dX12_shifted_6 : decode cX12_shifted 6 = .ok (.lshl, 1) := by decide +kernel
theorem dX12_shifted_7 : decode cX12_shifted 7 = .ok (.goto 7, 3) := by decide +kernel
theorem dX12_shifted_10 : decode cX12_shifted 10 = .ok (.lload_n 0, 1) := by decide +kernel
theorem dX12_shifted_11 : decode cX12_shifted 11 = .ok (.iload_n 2, 1) := by decide +kernel
theorem dX12_shifted_12 : decode cX12_shifted 12 = .ok (.ineg, 1) := by decide +kernel
theorem dX12_shifted_13 : decode cX12_shifted 13 = .ok (.lushr, 1) := by decide +kernel
theorem dX12_shifted_14 : decode cX12_shifted 14 = .ok (.lreturn, 1) := by decide +kernel
theorem dX12_range_0 : decode cX12_range 0 = .ok (.lconst 0, 1) := by decide +kernel
theorem dX12_range_1 : decode cX12_range 1 = .ok (.lstore_n 2, 1) := by decide +kernel
theorem dX12_range_2 : decode cX12_range 2 = .ok (.iload_n 0, 1) := by decide +kernel
theorem dX12_range_3 : decode cX12_range 3 = .ok (.istore 4, 2) := by decide +kernel
theorem dX12_range_5 : decode cX12_range 5 = .ok (.iload 4, 2) := by decide +kernel
theorem dX12_range_7 : decode cX12_range 7 = .ok (.iload_n 1, 1) := by decide +kernel
theorem dX12_range_8 : decode cX12_range 8 = .ok (.if_icmp .gt 16, 3) := by decide +kernel
theorem dX12_range_11 : decode cX12_range 11 = .ok (.lload_n 2, 1) := by decide +kernel
theorem dX12_range_12 : decode cX12_range 12 = .ok (.lconst 1, 1) := by decide +kernel
theorem dX12_range_13 : decode cX12_range 13 = .ok (.iload 4, 2) := by decide +kernel
theorem dX12_range_15 : decode cX12_range 15 = .ok (.lshl, 1) := by decide +kernel
theorem dX12_range_16 : decode cX12_range 16 = .ok (.lor, 1) := by decide +kernel
theorem dX12_range_17 : decode cX12_range 17 = .ok (.lstore_n 2, 1) := by decide +kernel
theorem dX12_range_18 : decode cX12_range 18 = .ok (.iinc 4 1, 3) := by decide +kernel
theorem dX12_range_21 : decode cX12_range 21 = .ok (.goto (-16), 3) := by decide +kernel
theorem dX12_range_24 : decode cX12_range 24 = .ok (.lload_n 2, 1) := by decide +kernel
theorem dX12_range_25 : decode cX12_range 25 = .ok (.lreturn, 1) := by decide +kernel
theorem dX12_least_0 : decode cX12_least 0 = .ok (.iconst 0, 1) := by decide +kernel
theorem dX12_least_1 : decode cX12_least 1 = .ok (.istore_n 2, 1) := by decide +kernel
theorem dX12_least_2 : decode cX12_least 2 = .ok (.iload_n 2, 1) := by decide +kernel
theorem dX12_least_3 : decode cX12_least 3 = .ok (.bipush 64, 2) := by decide +kernel
theorem dX12_least_5 : decode cX12_least 5 = .ok (.if_icmp .ge 19, 3) := by decide +kernel
theorem dX12_least_8 : decode cX12_least 8 = .ok (.lload_n 0, 1) := by decide +kernel
theorem dX12_least_9 : decode cX12_least 9 = .ok (.iload_n 2, 1) := by decide +kernel
theorem dX12_least_10 : decode cX12_least 10 = .ok (.lushr, 1) := by decide +kernel
theorem dX12_least_11 : decode cX12_least 11 = .ok (.lconst 1, 1) := by decide +kernel
theorem dX12_least_12 : decode cX12_least 12 = .ok (.land, 1) := by decide +kernel
theorem dX12_least_13 : decode cX12_least 13 = .ok (.lconst 0, 1) := by decide +kernel
theorem dX12_least_14 : decode cX12_least 14 = .ok (.lcmp, 1) := by decide +kernel
theorem dX12_least_15 : decode cX12_least 15 = .ok (.ifCond .ne 9, 3) := by decide +kernel
theorem dX12_least_18 : decode cX12_least 18 = .ok (.iinc 2 1, 3) := by decide +kernel
theorem dX12_least_21 : decode cX12_least 21 = .ok (.goto (-19), 3) := by decide +kernel
theorem dX12_least_24 : decode cX12_least 24 = .ok (.iload_n 2, 1) := by decide +kernel
theorem dX12_least_25 : decode cX12_least 25 = .ok (.ireturn, 1) := by decide +kernel
theorem dX12_greatest_0 : decode cX12_greatest 0 = .ok (.bipush 63, 2) := by decide +kernel
theorem dX12_greatest_2 : decode cX12_greatest 2 = .ok (.istore_n 2, 1) := by decide +kernel
theorem dX12_greatest_3 : decode cX12_greatest 3 = .ok (.iload_n 2, 1) := by decide +kernel
theorem dX12_greatest_4 : decode cX12_greatest 4 = .ok (.ifCond .lt 19, 3) := by decide +kernel
theorem dX12_greatest_7 : decode cX12_greatest 7 = .ok (.lload_n 0, 1) := by decide +kernel
theorem dX12_greatest_8 : decode cX12_greatest 8 = .ok (.iload_n 2, 1) := by decide +kernel
theorem dX12_greatest_9 : decode cX12_greatest 9 = .ok (.lushr, 1) := by decide +kernel
theorem dX12_greatest_10 : decode cX12_greatest 10 = .ok (.lconst 1, 1) := by decide +kernel
theorem dX12_greatest_11 : decode cX12_greatest 11 = .ok (.land, 1) := by decide +kernel
theorem dX12_greatest_12 : decode cX12_greatest 12 = .ok (.lconst 0, 1) := by decide +kernel
theorem dX12_greatest_13 : decode cX12_greatest 13 = .ok (.lcmp, 1) := by decide +kernel
theorem dX12_greatest_14 : decode cX12_greatest 14 = .ok (.ifCond .ne 9, 3) := by decide +kernel
theorem dX12_greatest_17 : decode cX12_greatest 17 = .ok (.iinc 2 (-1), 3) := by decide +kernel
theorem dX12_greatest_20 : decode cX12_greatest 20 = .ok (.goto (-17), 3) := by decide +kernel
theorem dX12_greatest_23 : decode cX12_greatest 23 = .ok (.iload_n 2, 1) := by decide +kernel
theorem dX12_greatest_24 : decode cX12_greatest 24 = .ok (.ireturn, 1) := by decide +kernel
theorem dX12_count_0 : decode cX12_count 0 = .ok (.iconst 0, 1) := by decide +kernel
theorem dX12_count_1 : decode cX12_count 1 = .ok (.istore_n 2, 1) := by decide +kernel
theorem dX12_count_2 : decode cX12_count 2 = .ok (.iconst 0, 1) := by decide +kernel
theorem dX12_count_3 : decode cX12_count 3 = .ok (.istore_n 3, 1) := by decide +kernel
theorem dX12_count_4 : decode cX12_count 4 = .ok (.iload_n 3, 1) := by decide +kernel
theorem dX12_count_5 : decode cX12_count 5 = .ok (.bipush 64, 2) := by decide +kernel
theorem dX12_count_7 : decode cX12_count 7 = .ok (.if_icmp .ge 18, 3) := by decide +kernel
theorem dX12_count_10 : decode cX12_count 10 = .ok (.iload_n 2, 1) := by decide +kernel
theorem dX12_count_11 : decode cX12_count 11 = .ok (.lload_n 0, 1) := by decide +kernel
theorem dX12_count_12 : decode cX12_count 12 = .ok (.iload_n 3, 1) := by decide +kernel
theorem dX12_count_13 : decode cX12_count 13 = .ok (.lushr, 1) := by decide +kernel
theorem dX12_count_14 : decode cX12_count 14 = .ok (.lconst 1, 1) := by decide +kernel
theorem dX12_count_15 : decode cX12_count 15 = .ok (.land, 1) := by decide +kernel
theorem dX12_count_16 : decode cX12_count 16 = .ok (.l2i, 1) := by decide +kernel
theorem dX12_count_17 : decode cX12_count 17 = .ok (.iadd, 1) := by decide +kernel
theorem dX12_count_18 : decode cX12_count 18 = .ok (.istore_n 2, 1) := by decide +kernel
theorem dX12_count_19 : decode cX12_count 19 = .ok (.iinc 3 1, 3) := by decide +kernel
theorem dX12_count_22 : decode cX12_count 22 = .ok (.goto (-18), 3) := by decide +kernel
theorem dX12_count_25 : decode cX12_count 25 = .ok (.iload_n 2, 1) := by decide +kernel
theorem dX12_count_26 : decode cX12_count 26 = .ok (.ireturn, 1) := by decide +kernel
theorem dX12_holds_0 : decode cX12_holds 0 = .ok (.aload_n 0, 1) := by decide +kernel
theorem dX12_holds_1 : decode cX12_holds 1 = .ok (.getfield 138, 3) := by decide +kernel
theorem dX12_holds_4 : decode cX12_holds 4 = .ok (.iload_n 1, 1) := by decide +kernel
theorem dX12_holds_5 : decode cX12_holds 5 = .ok (.iaload, 1) := by decide +kernel
theorem dX12_holds_6 : decode cX12_holds 6 = .ok (.ifCond .lt 42, 3) := by decide +kernel
theorem dX12_holds_9 : decode cX12_holds 9 = .ok (.aload_n 0, 1) := by decide +kernel
theorem dX12_holds_10 : decode cX12_holds 10 = .ok (.getfield 147, 3) := by decide +kernel
theorem dX12_holds_13 : decode cX12_holds 13 = .ok (.aload_n 0, 1) := by decide +kernel
theorem dX12_holds_14 : decode cX12_holds 14 = .ok (.getfield 13, 3) := by decide +kernel
theorem dX12_holds_17 : decode cX12_holds 17 = .ok (.aload_n 0, 1) := by decide +kernel
theorem dX12_holds_18 : decode cX12_holds 18 = .ok (.getfield 138, 3) := by decide +kernel
theorem dX12_holds_21 : decode cX12_holds 21 = .ok (.iload_n 1, 1) := by decide +kernel
theorem dX12_holds_22 : decode cX12_holds 22 = .ok (.iaload, 1) := by decide +kernel
theorem dX12_holds_23 : decode cX12_holds 23 = .ok (.iaload, 1) := by decide +kernel
theorem dX12_holds_24 : decode cX12_holds 24 = .ok (.laload, 1) := by decide +kernel
theorem dX12_holds_25 : decode cX12_holds 25 = .ok (.lconst 1, 1) := by decide +kernel
theorem dX12_holds_26 : decode cX12_holds 26 = .ok (.aload_n 0, 1) := by decide +kernel
theorem dX12_holds_27 : decode cX12_holds 27 = .ok (.getfield 16, 3) := by decide +kernel
theorem dX12_holds_30 : decode cX12_holds 30 = .ok (.aload_n 0, 1) := by decide +kernel
theorem dX12_holds_31 : decode cX12_holds 31 = .ok (.getfield 138, 3) := by decide +kernel
theorem dX12_holds_34 : decode cX12_holds 34 = .ok (.iload_n 1, 1) := by decide +kernel
theorem dX12_holds_35 : decode cX12_holds 35 = .ok (.iaload, 1) := by decide +kernel
theorem dX12_holds_36 : decode cX12_holds 36 = .ok (.iaload, 1) := by decide +kernel
theorem dX12_holds_37 : decode cX12_holds 37 = .ok (.lshl, 1) := by decide +kernel
theorem dX12_holds_38 : decode cX12_holds 38 = .ok (.ldc2_w 222, 3) := by decide +kernel
theorem dX12_holds_41 : decode cX12_holds 41 = .ok (.lxor, 1) := by decide +kernel
theorem dX12_holds_42 : decode cX12_holds 42 = .ok (.land, 1) := by decide +kernel
theorem dX12_holds_43 : decode cX12_holds 43 = .ok (.lconst 0, 1) := by decide +kernel
theorem dX12_holds_44 : decode cX12_holds 44 = .ok (.lcmp, 1) := by decide +kernel
theorem dX12_holds_45 : decode cX12_holds 45 = .ok (.ifCond .ne 7, 3) := by decide +kernel
theorem dX12_holds_48 : decode cX12_holds 48 = .ok (.iconst 1, 1) := by decide +kernel
theorem dX12_holds_49 : decode cX12_holds 49 = .ok (.goto 4, 3) := by decide +kernel
theorem dX12_holds_52 : decode cX12_holds 52 = .ok (.iconst 0, 1) := by decide +kernel
theorem dX12_holds_53 : decode cX12_holds 53 = .ok (.ireturn, 1) := by decide +kernel
theorem dX12_counts_0 : decode cX12_counts 0 = .ok (.aload_n 0, 1) := by decide +kernel
theorem dX12_counts_1 : decode cX12_counts 1 = .ok (.getfield 224, 3) := by decide +kernel
theorem dX12_counts_4 : decode cX12_counts 4 = .ok (.ifCond .eq 12, 3) := by decide +kernel
theorem dX12_counts_7 : decode cX12_counts 7 = .ok (.aload_n 0, 1) := by decide +kernel
theorem dX12_counts_8 : decode cX12_counts 8 = .ok (.getfield 144, 3) := by decide +kernel
theorem dX12_counts_11 : decode cX12_counts 11 = .ok (.iload_n 1, 1) := by decide +kernel
theorem dX12_counts_12 : decode cX12_counts 12 = .ok (.baload, 1) := by decide +kernel
theorem dX12_counts_13 : decode cX12_counts 13 = .ok (.goto 45, 3) := by decide +kernel
theorem dX12_counts_16 : decode cX12_counts 16 = .ok (.aload_n 0, 1) := by decide +kernel
theorem dX12_counts_17 : decode cX12_counts 17 = .ok (.getfield 135, 3) := by decide +kernel
theorem dX12_counts_20 : decode cX12_counts 20 = .ok (.iload_n 1, 1) := by decide +kernel
theorem dX12_counts_21 : decode cX12_counts 21 = .ok (.baload, 1) := by decide +kernel
theorem dX12_counts_22 : decode cX12_counts 22 = .ok (.ifCond .eq 35, 3) := by decide +kernel
theorem dX12_counts_25 : decode cX12_counts 25 = .ok (.aload_n 0, 1) := by decide +kernel
theorem dX12_counts_26 : decode cX12_counts 26 = .ok (.getfield 7, 3) := by decide +kernel
theorem dX12_counts_29 : decode cX12_counts 29 = .ok (.iload_n 1, 1) := by decide +kernel
theorem dX12_counts_30 : decode cX12_counts 30 = .ok (.iaload, 1) := by decide +kernel
theorem dX12_counts_31 : decode cX12_counts 31 = .ok (.bipush 7, 2) := by decide +kernel
theorem dX12_counts_33 : decode cX12_counts 33 = .ok (.if_icmp .ge 24, 3) := by decide +kernel
theorem dX12_counts_36 : decode cX12_counts 36 = .ok (.aload_n 0, 1) := by decide +kernel
theorem dX12_counts_37 : decode cX12_counts 37 = .ok (.getfield 141, 3) := by decide +kernel
theorem dX12_counts_40 : decode cX12_counts 40 = .ok (.iload_n 1, 1) := by decide +kernel
theorem dX12_counts_41 : decode cX12_counts 41 = .ok (.iaload, 1) := by decide +kernel
theorem dX12_counts_42 : decode cX12_counts 42 = .ok (.ifCond .ne 15, 3) := by decide +kernel
theorem dX12_counts_45 : decode cX12_counts 45 = .ok (.aload_n 0, 1) := by decide +kernel
theorem dX12_counts_46 : decode cX12_counts 46 = .ok (.iload_n 1, 1) := by decide +kernel
theorem dX12_counts_47 : decode cX12_counts 47 = .ok (.invokevirtual 228, 3) := by decide +kernel
theorem dX12_counts_50 : decode cX12_counts 50 = .ok (.ifCond .eq 7, 3) := by decide +kernel
theorem dX12_counts_53 : decode cX12_counts 53 = .ok (.iconst 1, 1) := by decide +kernel
theorem dX12_counts_54 : decode cX12_counts 54 = .ok (.goto 4, 3) := by decide +kernel
theorem dX12_counts_57 : decode cX12_counts 57 = .ok (.iconst 0, 1) := by decide +kernel
theorem dX12_counts_58 : decode cX12_counts 58 = .ok (.ireturn, 1) := by decide +kernel
theorem dX12_leaves_0 : decode cX12_leaves 0 = .ok (.aload_n 0, 1) := by decide +kernel
theorem dX12_leaves_1 : decode cX12_leaves 1 = .ok (.getfield 147, 3) := by decide +kernel
theorem dX12_leaves_4 : decode cX12_leaves 4 = .ok (.iload_n 1, 1) := by decide +kernel
theorem dX12_leaves_5 : decode cX12_leaves 5 = .ok (.dup2, 1) := by decide +kernel
theorem dX12_leaves_6 : decode cX12_leaves 6 = .ok (.laload, 1) := by decide +kernel
theorem dX12_leaves_7 : decode cX12_leaves 7 = .ok (.lload_n 2, 1) := by decide +kernel
theorem dX12_leaves_8 : decode cX12_leaves 8 = .ok (.land, 1) := by decide +kernel
theorem dX12_leaves_9 : decode cX12_leaves 9 = .ok (.lastore, 1) := by decide +kernel
theorem dX12_leaves_10 : decode cX12_leaves 10 = .ok (.return_, 1) := by decide +kernel
theorem dX12_narrowsBy_0 : decode cX12_narrowsBy 0 = .ok (.aload_n 0, 1) := by decide +kernel
theorem dX12_narrowsBy_1 : decode cX12_narrowsBy 1 = .ok (.getfield 13, 3) := by decide +kernel
theorem dX12_narrowsBy_4 : decode cX12_narrowsBy 4 = .ok (.iload_n 1, 1) := by decide +kernel
theorem dX12_narrowsBy_5 : decode cX12_narrowsBy 5 = .ok (.iaload, 1) := by decide +kernel
theorem dX12_narrowsBy_6 : decode cX12_narrowsBy 6 = .ok (.istore_n 2, 1) := by decide +kernel
theorem dX12_narrowsBy_7 : decode cX12_narrowsBy 7 = .ok (.aload_n 0, 1) := by decide +kernel
theorem dX12_narrowsBy_8 : decode cX12_narrowsBy 8 = .ok (.getfield 16, 3) := by decide +kernel
theorem dX12_narrowsBy_11 : decode cX12_narrowsBy 11 = .ok (.iload_n 1, 1) := by decide +kernel
theorem dX12_narrowsBy_12 : decode cX12_narrowsBy 12 = .ok (.iaload, 1) := by decide +kernel
theorem dX12_narrowsBy_13 : decode cX12_narrowsBy 13 = .ok (.istore_n 3, 1) := by decide +kernel
theorem dX12_narrowsBy_14 : decode cX12_narrowsBy 14 = .ok (.aload_n 0, 1) := by decide +kernel
theorem dX12_narrowsBy_15 : decode cX12_narrowsBy 15 = .ok (.getfield 7, 3) := by decide +kernel
theorem dX12_narrowsBy_18 : decode cX12_narrowsBy 18 = .ok (.iload_n 1, 1) := by decide +kernel
theorem dX12_narrowsBy_19 : decode cX12_narrowsBy 19 = .ok (.iaload, 1) := by decide +kernel
theorem dX12_narrowsBy_20 : decode cX12_narrowsBy 20 = .ok (.tableswitch 211 0 6 #[44, 55, 73, 93, 211, 108, 152], 44) := by decide +kernel
theorem dX12_narrowsBy_64 : decode cX12_narrowsBy 64 = .ok (.aload_n 0, 1) := by decide +kernel
theorem dX12_narrowsBy_65 : decode cX12_narrowsBy 65 = .ok (.iload_n 2, 1) := by decide +kernel
theorem dX12_narrowsBy_66 : decode cX12_narrowsBy 66 = .ok (.lconst 1, 1) := by decide +kernel
theorem dX12_narrowsBy_67 : decode cX12_narrowsBy 67 = .ok (.iload_n 3, 1) := by decide +kernel
theorem dX12_narrowsBy_68 : decode cX12_narrowsBy 68 = .ok (.lshl, 1) := by decide +kernel
theorem dX12_narrowsBy_69 : decode cX12_narrowsBy 69 = .ok (.invokevirtual 231, 3) := by decide +kernel
theorem dX12_narrowsBy_72 : decode cX12_narrowsBy 72 = .ok (.goto 159, 3) := by decide +kernel
theorem dX12_narrowsBy_75 : decode cX12_narrowsBy 75 = .ok (.aload_n 0, 1) := by decide +kernel
theorem dX12_narrowsBy_76 : decode cX12_narrowsBy 76 = .ok (.iload_n 2, 1) := by decide +kernel
theorem dX12_narrowsBy_77 : decode cX12_narrowsBy 77 = .ok (.iload_n 3, 1) := by decide +kernel
theorem dX12_narrowsBy_78 : decode cX12_narrowsBy 78 = .ok (.aload_n 0, 1) := by decide +kernel
theorem dX12_narrowsBy_79 : decode cX12_narrowsBy 79 = .ok (.getfield 19, 3) := by decide +kernel
theorem dX12_narrowsBy_82 : decode cX12_narrowsBy 82 = .ok (.iload_n 1, 1) := by decide +kernel
theorem dX12_narrowsBy_83 : decode cX12_narrowsBy 83 = .ok (.iaload, 1) := by decide +kernel
theorem dX12_narrowsBy_84 : decode cX12_narrowsBy 84 = .ok (.invokestatic 235, 3) := by decide +kernel
theorem dX12_narrowsBy_87 : decode cX12_narrowsBy 87 = .ok (.invokevirtual 231, 3) := by decide +kernel
theorem dX12_narrowsBy_90 : decode cX12_narrowsBy 90 = .ok (.goto 141, 3) := by decide +kernel
theorem dX12_narrowsBy_93 : decode cX12_narrowsBy 93 = .ok (.aload_n 0, 1) := by decide +kernel
theorem dX12_narrowsBy_94 : decode cX12_narrowsBy 94 = .ok (.iload_n 2, 1) := by decide +kernel
theorem dX12_narrowsBy_95 : decode cX12_narrowsBy 95 = .ok (.lconst 1, 1) := by decide +kernel
theorem dX12_narrowsBy_96 : decode cX12_narrowsBy 96 = .ok (.iload_n 3, 1) := by decide +kernel
theorem dX12_narrowsBy_97 : decode cX12_narrowsBy 97 = .ok (.lshl, 1) := by decide +kernel
theorem dX12_narrowsBy_98 : decode cX12_narrowsBy 98 = .ok (.lconst 1, 1) := by decide +kernel
theorem dX12_narrowsBy_99 : decode cX12_narrowsBy 99 = .ok (.aload_n 0, 1) := by decide +kernel
theorem dX12_narrowsBy_100 : decode cX12_narrowsBy 100 = .ok (.getfield 19, 3) := by decide +kernel
theorem dX12_narrowsBy_103 : decode cX12_narrowsBy 103 = .ok (.iload_n 1, 1) := by decide +kernel
theorem dX12_narrowsBy_104 : decode cX12_narrowsBy 104 = .ok (.iaload, 1) := by decide +kernel
theorem dX12_narrowsBy_105 : decode cX12_narrowsBy 105 = .ok (.lshl, 1) := by decide +kernel
theorem dX12_narrowsBy_106 : decode cX12_narrowsBy 106 = .ok (.lor, 1) := by decide +kernel
theorem dX12_narrowsBy_107 : decode cX12_narrowsBy 107 = .ok (.invokevirtual 231, 3) := by decide +kernel
theorem dX12_narrowsBy_110 : decode cX12_narrowsBy 110 = .ok (.goto 121, 3) := by decide +kernel
theorem dX12_narrowsBy_113 : decode cX12_narrowsBy 113 = .ok (.aload_n 0, 1) := by decide +kernel
theorem dX12_narrowsBy_114 : decode cX12_narrowsBy 114 = .ok (.iload_n 2, 1) := by decide +kernel
theorem dX12_narrowsBy_115 : decode cX12_narrowsBy 115 = .ok (.lconst 1, 1) := by decide +kernel
theorem dX12_narrowsBy_116 : decode cX12_narrowsBy 116 = .ok (.iload_n 3, 1) := by decide +kernel
theorem dX12_narrowsBy_117 : decode cX12_narrowsBy 117 = .ok (.lshl, 1) := by decide +kernel
theorem dX12_narrowsBy_118 : decode cX12_narrowsBy 118 = .ok (.ldc2_w 222, 3) := by decide +kernel
theorem dX12_narrowsBy_121 : decode cX12_narrowsBy 121 = .ok (.lxor, 1) := by decide +kernel
theorem dX12_narrowsBy_122 : decode cX12_narrowsBy 122 = .ok (.invokevirtual 231, 3) := by decide +kernel
theorem dX12_narrowsBy_125 : decode cX12_narrowsBy 125 = .ok (.goto 106, 3) := by decide +kernel
theorem dX12_narrowsBy_128 : decode cX12_narrowsBy 128 = .ok (.aload_n 0, 1) := by decide +kernel
theorem dX12_narrowsBy_129 : decode cX12_narrowsBy 129 = .ok (.iload_n 2, 1) := by decide +kernel
theorem dX12_narrowsBy_130 : decode cX12_narrowsBy 130 = .ok (.aload_n 0, 1) := by decide +kernel
theorem dX12_narrowsBy_131 : decode cX12_narrowsBy 131 = .ok (.getfield 147, 3) := by decide +kernel
theorem dX12_narrowsBy_134 : decode cX12_narrowsBy 134 = .ok (.iload_n 3, 1) := by decide +kernel
theorem dX12_narrowsBy_135 : decode cX12_narrowsBy 135 = .ok (.laload, 1) := by decide +kernel
theorem dX12_narrowsBy_136 : decode cX12_narrowsBy 136 = .ok (.aload_n 0, 1) := by decide +kernel
theorem dX12_narrowsBy_137 : decode cX12_narrowsBy 137 = .ok (.getfield 19, 3) := by decide +kernel
theorem dX12_narrowsBy_140 : decode cX12_narrowsBy 140 = .ok (.iload_n 1, 1) := by decide +kernel
theorem dX12_narrowsBy_141 : decode cX12_narrowsBy 141 = .ok (.iaload, 1) := by decide +kernel
theorem dX12_narrowsBy_142 : decode cX12_narrowsBy 142 = .ok (.invokestatic 239, 3) := by decide +kernel
theorem dX12_narrowsBy_145 : decode cX12_narrowsBy 145 = .ok (.invokevirtual 231, 3) := by decide +kernel
theorem dX12_narrowsBy_148 : decode cX12_narrowsBy 148 = .ok (.aload_n 0, 1) := by decide +kernel
theorem dX12_narrowsBy_149 : decode cX12_narrowsBy 149 = .ok (.iload_n 3, 1) := by decide +kernel
theorem dX12_narrowsBy_150 : decode cX12_narrowsBy 150 = .ok (.aload_n 0, 1) := by decide +kernel
theorem dX12_narrowsBy_151 : decode cX12_narrowsBy 151 = .ok (.getfield 147, 3) := by decide +kernel
theorem dX12_narrowsBy_154 : decode cX12_narrowsBy 154 = .ok (.iload_n 2, 1) := by decide +kernel
theorem dX12_narrowsBy_155 : decode cX12_narrowsBy 155 = .ok (.laload, 1) := by decide +kernel
theorem dX12_narrowsBy_156 : decode cX12_narrowsBy 156 = .ok (.aload_n 0, 1) := by decide +kernel
theorem dX12_narrowsBy_157 : decode cX12_narrowsBy 157 = .ok (.getfield 19, 3) := by decide +kernel
theorem dX12_narrowsBy_160 : decode cX12_narrowsBy 160 = .ok (.iload_n 1, 1) := by decide +kernel
theorem dX12_narrowsBy_161 : decode cX12_narrowsBy 161 = .ok (.iaload, 1) := by decide +kernel
theorem dX12_narrowsBy_162 : decode cX12_narrowsBy 162 = .ok (.ineg, 1) := by decide +kernel
theorem dX12_narrowsBy_163 : decode cX12_narrowsBy 163 = .ok (.invokestatic 239, 3) := by decide +kernel
theorem dX12_narrowsBy_166 : decode cX12_narrowsBy 166 = .ok (.invokevirtual 231, 3) := by decide +kernel
theorem dX12_narrowsBy_169 : decode cX12_narrowsBy 169 = .ok (.goto 62, 3) := by decide +kernel
theorem dX12_narrowsBy_172 : decode cX12_narrowsBy 172 = .ok (.aload_n 0, 1) := by decide +kernel
theorem dX12_narrowsBy_173 : decode cX12_narrowsBy 173 = .ok (.iload_n 2, 1) := by decide +kernel
theorem dX12_narrowsBy_174 : decode cX12_narrowsBy 174 = .ok (.iconst 0, 1) := by decide +kernel
theorem dX12_narrowsBy_175 : decode cX12_narrowsBy 175 = .ok (.aload_n 0, 1) := by decide +kernel
theorem dX12_narrowsBy_176 : decode cX12_narrowsBy 176 = .ok (.getfield 147, 3) := by decide +kernel
theorem dX12_narrowsBy_179 : decode cX12_narrowsBy 179 = .ok (.iload_n 3, 1) := by decide +kernel
theorem dX12_narrowsBy_180 : decode cX12_narrowsBy 180 = .ok (.laload, 1) := by decide +kernel
theorem dX12_narrowsBy_181 : decode cX12_narrowsBy 181 = .ok (.invokestatic 243, 3) := by decide +kernel
theorem dX12_narrowsBy_184 : decode cX12_narrowsBy 184 = .ok (.iconst 1, 1) := by decide +kernel
theorem dX12_narrowsBy_185 : decode cX12_narrowsBy 185 = .ok (.isub, 1) := by decide +kernel
theorem dX12_narrowsBy_186 : decode cX12_narrowsBy 186 = .ok (.invokestatic 235, 3) := by decide +kernel
theorem dX12_narrowsBy_189 : decode cX12_narrowsBy 189 = .ok (.invokevirtual 231, 3) := by decide +kernel
theorem dX12_narrowsBy_192 : decode cX12_narrowsBy 192 = .ok (.aload_n 0, 1) := by decide +kernel
theorem dX12_narrowsBy_193 : decode cX12_narrowsBy 193 = .ok (.iload_n 3, 1) := by decide +kernel
theorem dX12_narrowsBy_194 : decode cX12_narrowsBy 194 = .ok (.aload_n 0, 1) := by decide +kernel
theorem dX12_narrowsBy_195 : decode cX12_narrowsBy 195 = .ok (.getfield 147, 3) := by decide +kernel
theorem dX12_narrowsBy_198 : decode cX12_narrowsBy 198 = .ok (.iload_n 2, 1) := by decide +kernel
theorem dX12_narrowsBy_199 : decode cX12_narrowsBy 199 = .ok (.laload, 1) := by decide +kernel
theorem dX12_narrowsBy_200 : decode cX12_narrowsBy 200 = .ok (.lconst 0, 1) := by decide +kernel
theorem dX12_narrowsBy_201 : decode cX12_narrowsBy 201 = .ok (.lcmp, 1) := by decide +kernel
theorem dX12_narrowsBy_202 : decode cX12_narrowsBy 202 = .ok (.ifCond .ne 7, 3) := by decide +kernel
theorem dX12_narrowsBy_205 : decode cX12_narrowsBy 205 = .ok (.lconst 0, 1) := by decide +kernel
theorem dX12_narrowsBy_206 : decode cX12_narrowsBy 206 = .ok (.goto 19, 3) := by decide +kernel
theorem dX12_narrowsBy_209 : decode cX12_narrowsBy 209 = .ok (.aload_n 0, 1) := by decide +kernel
theorem dX12_narrowsBy_210 : decode cX12_narrowsBy 210 = .ok (.getfield 147, 3) := by decide +kernel
theorem dX12_narrowsBy_213 : decode cX12_narrowsBy 213 = .ok (.iload_n 2, 1) := by decide +kernel
theorem dX12_narrowsBy_214 : decode cX12_narrowsBy 214 = .ok (.laload, 1) := by decide +kernel
theorem dX12_narrowsBy_215 : decode cX12_narrowsBy 215 = .ok (.invokestatic 247, 3) := by decide +kernel
theorem dX12_narrowsBy_218 : decode cX12_narrowsBy 218 = .ok (.iconst 1, 1) := by decide +kernel
theorem dX12_narrowsBy_219 : decode cX12_narrowsBy 219 = .ok (.iadd, 1) := by decide +kernel
theorem dX12_narrowsBy_220 : decode cX12_narrowsBy 220 = .ok (.bipush 63, 2) := by decide +kernel
theorem dX12_narrowsBy_222 : decode cX12_narrowsBy 222 = .ok (.invokestatic 235, 3) := by decide +kernel
theorem dX12_narrowsBy_225 : decode cX12_narrowsBy 225 = .ok (.invokevirtual 231, 3) := by decide +kernel
theorem dX12_narrowsBy_228 : decode cX12_narrowsBy 228 = .ok (.goto 3, 3) := by decide +kernel
theorem dX12_narrowsBy_231 : decode cX12_narrowsBy 231 = .ok (.return_, 1) := by decide +kernel
theorem dX12_narrows_0 : decode cX12_narrows 0 = .ok (.iconst 1, 1) := by decide +kernel
theorem dX12_narrows_1 : decode cX12_narrows 1 = .ok (.istore_n 1, 1) := by decide +kernel
theorem dX12_narrows_2 : decode cX12_narrows 2 = .ok (.iload_n 1, 1) := by decide +kernel
theorem dX12_narrows_3 : decode cX12_narrows 3 = .ok (.ifCond .eq 118, 3) := by decide +kernel
theorem dX12_narrows_6 : decode cX12_narrows 6 = .ok (.iconst 0, 1) := by decide +kernel
theorem dX12_narrows_7 : decode cX12_narrows 7 = .ok (.istore_n 1, 1) := by decide +kernel
theorem dX12_narrows_8 : decode cX12_narrows 8 = .ok (.iconst 0, 1) := by decide +kernel
theorem dX12_narrows_9 : decode cX12_narrows 9 = .ok (.istore_n 2, 1) := by decide +kernel
theorem dX12_narrows_10 : decode cX12_narrows 10 = .ok (.iload_n 2, 1) := by decide +kernel
theorem dX12_narrows_11 : decode cX12_narrows 11 = .ok (.aload_n 0, 1) := by decide +kernel
theorem dX12_narrows_12 : decode cX12_narrows 12 = .ok (.getfield 183, 3) := by decide +kernel
theorem dX12_narrows_15 : decode cX12_narrows 15 = .ok (.if_icmp .ge 103, 3) := by decide +kernel
theorem dX12_narrows_18 : decode cX12_narrows 18 = .ok (.aload_n 0, 1) := by decide +kernel
theorem dX12_narrows_19 : decode cX12_narrows 19 = .ok (.getfield 13, 3) := by decide +kernel
theorem dX12_narrows_22 : decode cX12_narrows 22 = .ok (.iload_n 2, 1) := by decide +kernel
theorem dX12_narrows_23 : decode cX12_narrows 23 = .ok (.iaload, 1) := by decide +kernel
theorem dX12_narrows_24 : decode cX12_narrows 24 = .ok (.istore_n 3, 1) := by decide +kernel
theorem dX12_narrows_25 : decode cX12_narrows 25 = .ok (.aload_n 0, 1) := by decide +kernel
theorem dX12_narrows_26 : decode cX12_narrows 26 = .ok (.getfield 7, 3) := by decide +kernel
theorem dX12_narrows_29 : decode cX12_narrows 29 = .ok (.iload_n 2, 1) := by decide +kernel
theorem dX12_narrows_30 : decode cX12_narrows 30 = .ok (.iaload, 1) := by decide +kernel
theorem dX12_narrows_31 : decode cX12_narrows 31 = .ok (.invokestatic 177, 3) := by decide +kernel
theorem dX12_narrows_34 : decode cX12_narrows 34 = .ok (.ifCond .eq 12, 3) := by decide +kernel
theorem dX12_narrows_37 : decode cX12_narrows 37 = .ok (.aload_n 0, 1) := by decide +kernel
theorem dX12_narrows_38 : decode cX12_narrows 38 = .ok (.getfield 16, 3) := by decide +kernel
theorem dX12_narrows_41 : decode cX12_narrows 41 = .ok (.iload_n 2, 1) := by decide +kernel
theorem dX12_narrows_42 : decode cX12_narrows 42 = .ok (.iaload, 1) := by decide +kernel
theorem dX12_narrows_43 : decode cX12_narrows 43 = .ok (.goto 4, 3) := by decide +kernel
theorem dX12_narrows_46 : decode cX12_narrows 46 = .ok (.iconst 0, 1) := by decide +kernel
theorem dX12_narrows_47 : decode cX12_narrows 47 = .ok (.istore 4, 2) := by decide +kernel
theorem dX12_narrows_49 : decode cX12_narrows 49 = .ok (.aload_n 0, 1) := by decide +kernel
theorem dX12_narrows_50 : decode cX12_narrows 50 = .ok (.iload_n 2, 1) := by decide +kernel
theorem dX12_narrows_51 : decode cX12_narrows 51 = .ok (.invokevirtual 250, 3) := by decide +kernel
theorem dX12_narrows_54 : decode cX12_narrows 54 = .ok (.ifCond .eq 58, 3) := by decide +kernel
theorem dX12_narrows_57 : decode cX12_narrows 57 = .ok (.aload_n 0, 1) := by decide +kernel
theorem dX12_narrows_58 : decode cX12_narrows 58 = .ok (.getfield 147, 3) := by decide +kernel
theorem dX12_narrows_61 : decode cX12_narrows 61 = .ok (.iload_n 3, 1) := by decide +kernel
theorem dX12_narrows_62 : decode cX12_narrows 62 = .ok (.laload, 1) := by decide +kernel
theorem dX12_narrows_63 : decode cX12_narrows 63 = .ok (.lstore 5, 2) := by decide +kernel
theorem dX12_narrows_65 : decode cX12_narrows 65 = .ok (.aload_n 0, 1) := by decide +kernel
theorem dX12_narrows_66 : decode cX12_narrows 66 = .ok (.getfield 147, 3) := by decide +kernel
theorem dX12_narrows_69 : decode cX12_narrows 69 = .ok (.iload 4, 2) := by decide +kernel
theorem dX12_narrows_71 : decode cX12_narrows 71 = .ok (.laload, 1) := by decide +kernel
theorem dX12_narrows_72 : decode cX12_narrows 72 = .ok (.lstore 7, 2) := by decide +kernel
theorem dX12_narrows_74 : decode cX12_narrows 74 = .ok (.aload_n 0, 1) := by decide +kernel
theorem dX12_narrows_75 : decode cX12_narrows 75 = .ok (.iload_n 2, 1) := by decide +kernel
theorem dX12_narrows_76 : decode cX12_narrows 76 = .ok (.invokevirtual 253, 3) := by decide +kernel
theorem dX12_narrows_79 : decode cX12_narrows 79 = .ok (.iload_n 1, 1) := by decide +kernel
theorem dX12_narrows_80 : decode cX12_narrows 80 = .ok (.aload_n 0, 1) := by decide +kernel
theorem dX12_narrows_81 : decode cX12_narrows 81 = .ok (.getfield 147, 3) := by decide +kernel
theorem dX12_narrows_84 : decode cX12_narrows 84 = .ok (.iload_n 3, 1) := by decide +kernel
theorem dX12_narrows_85 : decode cX12_narrows 85 = .ok (.laload, 1) := by decide +kernel
theorem dX12_narrows_86 : decode cX12_narrows 86 = .ok (.lload 5, 2) := by decide +kernel
theorem dX12_narrows_88 : decode cX12_narrows 88 = .ok (.lcmp, 1) := by decide +kernel
theorem dX12_narrows_89 : decode cX12_narrows 89 = .ok (.ifCond .ne 16, 3) := by decide +kernel
theorem dX12_narrows_92 : decode cX12_narrows 92 = .ok (.aload_n 0, 1) := by decide +kernel
theorem dX12_narrows_93 : decode cX12_narrows 93 = .ok (.getfield 147, 3) := by decide +kernel
theorem dX12_narrows_96 : decode cX12_narrows 96 = .ok (.iload 4, 2) := by decide +kernel
theorem dX12_narrows_98 : decode cX12_narrows 98 = .ok (.laload, 1) := by decide +kernel
theorem dX12_narrows_99 : decode cX12_narrows 99 = .ok (.lload 7, 2) := by decide +kernel
theorem dX12_narrows_101 : decode cX12_narrows 101 = .ok (.lcmp, 1) := by decide +kernel
theorem dX12_narrows_102 : decode cX12_narrows 102 = .ok (.ifCond .eq 7, 3) := by decide +kernel
theorem dX12_narrows_105 : decode cX12_narrows 105 = .ok (.iconst 1, 1) := by decide +kernel
theorem dX12_narrows_106 : decode cX12_narrows 106 = .ok (.goto 4, 3) := by decide +kernel
theorem dX12_narrows_109 : decode cX12_narrows 109 = .ok (.iconst 0, 1) := by decide +kernel
theorem dX12_narrows_110 : decode cX12_narrows 110 = .ok (.ior, 1) := by decide +kernel
theorem dX12_narrows_111 : decode cX12_narrows 111 = .ok (.istore_n 1, 1) := by decide +kernel
theorem dX12_narrows_112 : decode cX12_narrows 112 = .ok (.iinc 2 1, 3) := by decide +kernel
theorem dX12_narrows_115 : decode cX12_narrows 115 = .ok (.goto (-105), 3) := by decide +kernel
theorem dX12_narrows_118 : decode cX12_narrows 118 = .ok (.goto (-116), 3) := by decide +kernel
theorem dX12_narrows_121 : decode cX12_narrows 121 = .ok (.return_, 1) := by decide +kernel
theorem dX12_isEmpty_0 : decode cX12_isEmpty 0 = .ok (.iconst 0, 1) := by decide +kernel
theorem dX12_isEmpty_1 : decode cX12_isEmpty 1 = .ok (.istore_n 1, 1) := by decide +kernel
theorem dX12_isEmpty_2 : decode cX12_isEmpty 2 = .ok (.iconst 0, 1) := by decide +kernel
theorem dX12_isEmpty_3 : decode cX12_isEmpty 3 = .ok (.istore_n 2, 1) := by decide +kernel
theorem dX12_isEmpty_4 : decode cX12_isEmpty 4 = .ok (.iload_n 2, 1) := by decide +kernel
theorem dX12_isEmpty_5 : decode cX12_isEmpty 5 = .ok (.bipush 10, 2) := by decide +kernel
theorem dX12_isEmpty_7 : decode cX12_isEmpty 7 = .ok (.if_icmp .ge 28, 3) := by decide +kernel
theorem dX12_isEmpty_10 : decode cX12_isEmpty 10 = .ok (.iload_n 1, 1) := by decide +kernel
theorem dX12_isEmpty_11 : decode cX12_isEmpty 11 = .ok (.aload_n 0, 1) := by decide +kernel
theorem dX12_isEmpty_12 : decode cX12_isEmpty 12 = .ok (.getfield 147, 3) := by decide +kernel
theorem dX12_isEmpty_15 : decode cX12_isEmpty 15 = .ok (.iload_n 2, 1) := by decide +kernel
theorem dX12_isEmpty_16 : decode cX12_isEmpty 16 = .ok (.laload, 1) := by decide +kernel
theorem dX12_isEmpty_17 : decode cX12_isEmpty 17 = .ok (.lconst 0, 1) := by decide +kernel
theorem dX12_isEmpty_18 : decode cX12_isEmpty 18 = .ok (.lcmp, 1) := by decide +kernel
theorem dX12_isEmpty_19 : decode cX12_isEmpty 19 = .ok (.ifCond .ne 7, 3) := by decide +kernel
theorem dX12_isEmpty_22 : decode cX12_isEmpty 22 = .ok (.iconst 1, 1) := by decide +kernel
theorem dX12_isEmpty_23 : decode cX12_isEmpty 23 = .ok (.goto 4, 3) := by decide +kernel
theorem dX12_isEmpty_26 : decode cX12_isEmpty 26 = .ok (.iconst 0, 1) := by decide +kernel
theorem dX12_isEmpty_27 : decode cX12_isEmpty 27 = .ok (.ior, 1) := by decide +kernel
theorem dX12_isEmpty_28 : decode cX12_isEmpty 28 = .ok (.istore_n 1, 1) := by decide +kernel
theorem dX12_isEmpty_29 : decode cX12_isEmpty 29 = .ok (.iinc 2 1, 3) := by decide +kernel
theorem dX12_isEmpty_32 : decode cX12_isEmpty 32 = .ok (.goto (-28), 3) := by decide +kernel
theorem dX12_isEmpty_35 : decode cX12_isEmpty 35 = .ok (.iload_n 1, 1) := by decide +kernel
theorem dX12_isEmpty_36 : decode cX12_isEmpty 36 = .ok (.ireturn, 1) := by decide +kernel
theorem dX12_opens_0 : decode cX12_opens 0 = .ok (.iconst 0, 1) := by decide +kernel
theorem dX12_opens_1 : decode cX12_opens 1 = .ok (.istore_n 1, 1) := by decide +kernel
theorem dX12_opens_2 : decode cX12_opens 2 = .ok (.iload_n 1, 1) := by decide +kernel
theorem dX12_opens_3 : decode cX12_opens 3 = .ok (.bipush 10, 2) := by decide +kernel
theorem dX12_opens_5 : decode cX12_opens 5 = .ok (.if_icmp .ge 18, 3) := by decide +kernel
theorem dX12_opens_8 : decode cX12_opens 8 = .ok (.aload_n 0, 1) := by decide +kernel
theorem dX12_opens_9 : decode cX12_opens 9 = .ok (.getfield 147, 3) := by decide +kernel
theorem dX12_opens_12 : decode cX12_opens 12 = .ok (.iload_n 1, 1) := by decide +kernel
theorem dX12_opens_13 : decode cX12_opens 13 = .ok (.ldc2_w 222, 3) := by decide +kernel
theorem dX12_opens_16 : decode cX12_opens 16 = .ok (.lastore, 1) := by decide +kernel
theorem dX12_opens_17 : decode cX12_opens 17 = .ok (.iinc 1 1, 3) := by decide +kernel
theorem dX12_opens_20 : decode cX12_opens 20 = .ok (.goto (-18), 3) := by decide +kernel
theorem dX12_opens_23 : decode cX12_opens 23 = .ok (.return_, 1) := by decide +kernel
theorem dX12_solves_0 : decode cX12_solves 0 = .ok (.aload_n 0, 1) := by decide +kernel
theorem dX12_solves_1 : decode cX12_solves 1 = .ok (.invokevirtual 190, 3) := by decide +kernel
theorem dX12_solves_4 : decode cX12_solves 4 = .ok (.aload_n 0, 1) := by decide +kernel
theorem dX12_solves_5 : decode cX12_solves 5 = .ok (.iconst 0, 1) := by decide +kernel
theorem dX12_solves_6 : decode cX12_solves 6 = .ok (.putfield 224, 3) := by decide +kernel
theorem dX12_solves_9 : decode cX12_solves 9 = .ok (.aload_n 0, 1) := by decide +kernel
theorem dX12_solves_10 : decode cX12_solves 10 = .ok (.invokevirtual 257, 3) := by decide +kernel
theorem dX12_solves_13 : decode cX12_solves 13 = .ok (.aload_n 0, 1) := by decide +kernel
theorem dX12_solves_14 : decode cX12_solves 14 = .ok (.invokevirtual 260, 3) := by decide +kernel
theorem dX12_solves_17 : decode cX12_solves 17 = .ok (.iconst 0, 1) := by decide +kernel
theorem dX12_solves_18 : decode cX12_solves 18 = .ok (.istore_n 1, 1) := by decide +kernel
theorem dX12_solves_19 : decode cX12_solves 19 = .ok (.iload_n 1, 1) := by decide +kernel
theorem dX12_solves_20 : decode cX12_solves 20 = .ok (.bipush 10, 2) := by decide +kernel
theorem dX12_solves_22 : decode cX12_solves 22 = .ok (.if_icmp .ge 21, 3) := by decide +kernel
theorem dX12_solves_25 : decode cX12_solves 25 = .ok (.aload_n 0, 1) := by decide +kernel
theorem dX12_solves_26 : decode cX12_solves 26 = .ok (.getfield 151, 3) := by decide +kernel
theorem dX12_solves_29 : decode cX12_solves 29 = .ok (.iload_n 1, 1) := by decide +kernel
theorem dX12_solves_30 : decode cX12_solves 30 = .ok (.aload_n 0, 1) := by decide +kernel
theorem dX12_solves_31 : decode cX12_solves 31 = .ok (.getfield 147, 3) := by decide +kernel
theorem dX12_solves_34 : decode cX12_solves 34 = .ok (.iload_n 1, 1) := by decide +kernel
theorem dX12_solves_35 : decode cX12_solves 35 = .ok (.laload, 1) := by decide +kernel
theorem dX12_solves_36 : decode cX12_solves 36 = .ok (.lastore, 1) := by decide +kernel
theorem dX12_solves_37 : decode cX12_solves 37 = .ok (.iinc 1 1, 3) := by decide +kernel
theorem dX12_solves_40 : decode cX12_solves 40 = .ok (.goto (-21), 3) := by decide +kernel
theorem dX12_solves_43 : decode cX12_solves 43 = .ok (.aload_n 0, 1) := by decide +kernel
theorem dX12_solves_44 : decode cX12_solves 44 = .ok (.aload_n 0, 1) := by decide +kernel
theorem dX12_solves_45 : decode cX12_solves 45 = .ok (.invokevirtual 263, 3) := by decide +kernel
theorem dX12_solves_48 : decode cX12_solves 48 = .ok (.putfield 267, 3) := by decide +kernel
theorem dX12_solves_51 : decode cX12_solves 51 = .ok (.iconst 0, 1) := by decide +kernel
theorem dX12_solves_52 : decode cX12_solves 52 = .ok (.istore_n 1, 1) := by decide +kernel
theorem dX12_solves_53 : decode cX12_solves 53 = .ok (.iload_n 1, 1) := by decide +kernel
theorem dX12_solves_54 : decode cX12_solves 54 = .ok (.bipush 10, 2) := by decide +kernel
theorem dX12_solves_56 : decode cX12_solves 56 = .ok (.if_icmp .ge 34, 3) := by decide +kernel
theorem dX12_solves_59 : decode cX12_solves 59 = .ok (.aload_n 0, 1) := by decide +kernel
theorem dX12_solves_60 : decode cX12_solves 60 = .ok (.getfield 267, 3) := by decide +kernel
theorem dX12_solves_63 : decode cX12_solves 63 = .ok (.ifCond .ne 27, 3) := by decide +kernel
theorem dX12_solves_66 : decode cX12_solves 66 = .ok (.aload_n 0, 1) := by decide +kernel
theorem dX12_solves_67 : decode cX12_solves 67 = .ok (.getfield 147, 3) := by decide +kernel
theorem dX12_solves_70 : decode cX12_solves 70 = .ok (.iload_n 1, 1) := by decide +kernel
theorem dX12_solves_71 : decode cX12_solves 71 = .ok (.laload, 1) := by decide +kernel
theorem dX12_solves_72 : decode cX12_solves 72 = .ok (.invokestatic 270, 3) := by decide +kernel
theorem dX12_solves_75 : decode cX12_solves 75 = .ok (.iconst 1, 1) := by decide +kernel
theorem dX12_solves_76 : decode cX12_solves 76 = .ok (.if_icmp .le 8, 3) := by decide +kernel
theorem dX12_solves_79 : decode cX12_solves 79 = .ok (.aload_n 0, 1) := by decide +kernel
theorem dX12_solves_80 : decode cX12_solves 80 = .ok (.iload_n 1, 1) := by decide +kernel
theorem dX12_solves_81 : decode cX12_solves 81 = .ok (.invokevirtual 273, 3) := by decide +kernel
theorem dX12_solves_84 : decode cX12_solves 84 = .ok (.iinc 1 1, 3) := by decide +kernel
theorem dX12_solves_87 : decode cX12_solves 87 = .ok (.goto (-34), 3) := by decide +kernel
theorem dX12_solves_90 : decode cX12_solves 90 = .ok (.return_, 1) := by decide +kernel
theorem dX12_defaults_0 : decode cX12_defaults 0 = .ok (.iconst (-1), 1) := by decide +kernel
theorem dX12_defaults_1 : decode cX12_defaults 1 = .ok (.istore_n 2, 1) := by decide +kernel
theorem dX12_defaults_2 : decode cX12_defaults 2 = .ok (.iconst 0, 1) := by decide +kernel
theorem dX12_defaults_3 : decode cX12_defaults 3 = .ok (.istore_n 3, 1) := by decide +kernel
theorem dX12_defaults_4 : decode cX12_defaults 4 = .ok (.iload_n 3, 1) := by decide +kernel
theorem dX12_defaults_5 : decode cX12_defaults 5 = .ok (.aload_n 0, 1) := by decide +kernel
theorem dX12_defaults_6 : decode cX12_defaults 6 = .ok (.getfield 183, 3) := by decide +kernel
theorem dX12_defaults_9 : decode cX12_defaults 9 = .ok (.if_icmp .ge 78, 3) := by decide +kernel
theorem dX12_defaults_12 : decode cX12_defaults 12 = .ok (.aload_n 0, 1) := by decide +kernel
theorem dX12_defaults_13 : decode cX12_defaults 13 = .ok (.getfield 7, 3) := by decide +kernel
theorem dX12_defaults_16 : decode cX12_defaults 16 = .ok (.iload_n 3, 1) := by decide +kernel
theorem dX12_defaults_17 : decode cX12_defaults 17 = .ok (.iaload, 1) := by decide +kernel
theorem dX12_defaults_18 : decode cX12_defaults 18 = .ok (.iconst 4, 1) := by decide +kernel
theorem dX12_defaults_19 : decode cX12_defaults 19 = .ok (.if_icmp .ne 62, 3) := by decide +kernel
theorem dX12_defaults_22 : decode cX12_defaults 22 = .ok (.aload_n 0, 1) := by decide +kernel
theorem dX12_defaults_23 : decode cX12_defaults 23 = .ok (.getfield 13, 3) := by decide +kernel
theorem dX12_defaults_26 : decode cX12_defaults 26 = .ok (.iload_n 3, 1) := by decide +kernel
theorem dX12_defaults_27 : decode cX12_defaults 27 = .ok (.iaload, 1) := by decide +kernel
theorem dX12_defaults_28 : decode cX12_defaults 28 = .ok (.iload_n 1, 1) := by decide +kernel
theorem dX12_defaults_29 : decode cX12_defaults 29 = .ok (.if_icmp .ne 52, 3) := by decide +kernel
theorem dX12_defaults_32 : decode cX12_defaults 32 = .ok (.aload_n 0, 1) := by decide +kernel
theorem dX12_defaults_33 : decode cX12_defaults 33 = .ok (.iload_n 3, 1) := by decide +kernel
theorem dX12_defaults_34 : decode cX12_defaults 34 = .ok (.invokevirtual 250, 3) := by decide +kernel
theorem dX12_defaults_37 : decode cX12_defaults 37 = .ok (.ifCond .eq 44, 3) := by decide +kernel
theorem dX12_defaults_40 : decode cX12_defaults 40 = .ok (.aload_n 0, 1) := by decide +kernel
theorem dX12_defaults_41 : decode cX12_defaults 41 = .ok (.getfield 22, 3) := by decide +kernel
theorem dX12_defaults_44 : decode cX12_defaults 44 = .ok (.iload_n 3, 1) := by decide +kernel
theorem dX12_defaults_45 : decode cX12_defaults 45 = .ok (.iaload, 1) := by decide +kernel
theorem dX12_defaults_46 : decode cX12_defaults 46 = .ok (.ifCond .ge 7, 3) := by decide +kernel
theorem dX12_defaults_49 : decode cX12_defaults 49 = .ok (.iconst 0, 1) := by decide +kernel
theorem dX12_defaults_50 : decode cX12_defaults 50 = .ok (.goto 16, 3) := by decide +kernel
theorem dX12_defaults_53 : decode cX12_defaults 53 = .ok (.aload_n 0, 1) := by decide +kernel
theorem dX12_defaults_54 : decode cX12_defaults 54 = .ok (.getfield 38, 3) := by decide +kernel
theorem dX12_defaults_57 : decode cX12_defaults 57 = .ok (.aload_n 0, 1) := by decide +kernel
theorem dX12_defaults_58 : decode cX12_defaults 58 = .ok (.getfield 22, 3) := by decide +kernel
theorem dX12_defaults_61 : decode cX12_defaults 61 = .ok (.iload_n 3, 1) := by decide +kernel
theorem dX12_defaults_62 : decode cX12_defaults 62 = .ok (.iaload, 1) := by decide +kernel
theorem dX12_defaults_63 : decode cX12_defaults 63 = .ok (.iaload, 1) := by decide +kernel
theorem dX12_defaults_64 : decode cX12_defaults 64 = .ok (.iconst 1, 1) := by decide +kernel
theorem dX12_defaults_65 : decode cX12_defaults 65 = .ok (.iadd, 1) := by decide +kernel
theorem dX12_defaults_66 : decode cX12_defaults 66 = .ok (.istore 4, 2) := by decide +kernel
theorem dX12_defaults_68 : decode cX12_defaults 68 = .ok (.iload 4, 2) := by decide +kernel
theorem dX12_defaults_70 : decode cX12_defaults 70 = .ok (.iload_n 2, 1) := by decide +kernel
theorem dX12_defaults_71 : decode cX12_defaults 71 = .ok (.if_icmp .le 8, 3) := by decide +kernel
theorem dX12_defaults_74 : decode cX12_defaults 74 = .ok (.iload 4, 2) := by decide +kernel
theorem dX12_defaults_76 : decode cX12_defaults 76 = .ok (.goto 4, 3) := by decide +kernel
theorem dX12_defaults_79 : decode cX12_defaults 79 = .ok (.iload_n 2, 1) := by decide +kernel
theorem dX12_defaults_80 : decode cX12_defaults 80 = .ok (.istore_n 2, 1) := by decide +kernel
theorem dX12_defaults_81 : decode cX12_defaults 81 = .ok (.iinc 3 1, 3) := by decide +kernel
theorem dX12_defaults_84 : decode cX12_defaults 84 = .ok (.goto (-80), 3) := by decide +kernel
theorem dX12_defaults_87 : decode cX12_defaults 87 = .ok (.lconst 0, 1) := by decide +kernel
theorem dX12_defaults_88 : decode cX12_defaults 88 = .ok (.lstore_n 3, 1) := by decide +kernel
theorem dX12_defaults_89 : decode cX12_defaults 89 = .ok (.iconst 0, 1) := by decide +kernel
theorem dX12_defaults_90 : decode cX12_defaults 90 = .ok (.istore 5, 2) := by decide +kernel
theorem dX12_defaults_92 : decode cX12_defaults 92 = .ok (.iload 5, 2) := by decide +kernel
theorem dX12_defaults_94 : decode cX12_defaults 94 = .ok (.aload_n 0, 1) := by decide +kernel
theorem dX12_defaults_95 : decode cX12_defaults 95 = .ok (.getfield 183, 3) := by decide +kernel
theorem dX12_defaults_98 : decode cX12_defaults 98 = .ok (.if_icmp .ge 100, 3) := by decide +kernel
theorem dX12_defaults_101 : decode cX12_defaults 101 = .ok (.aload_n 0, 1) := by decide +kernel
theorem dX12_defaults_102 : decode cX12_defaults 102 = .ok (.getfield 7, 3) := by decide +kernel
theorem dX12_defaults_105 : decode cX12_defaults 105 = .ok (.iload 5, 2) := by decide +kernel
theorem dX12_defaults_107 : decode cX12_defaults 107 = .ok (.iaload, 1) := by decide +kernel
theorem dX12_defaults_108 : decode cX12_defaults 108 = .ok (.iconst 4, 1) := by decide +kernel
theorem dX12_defaults_109 : decode cX12_defaults 109 = .ok (.if_icmp .ne 59, 3) := by decide +kernel
theorem dX12_defaults_112 : decode cX12_defaults 112 = .ok (.aload_n 0, 1) := by decide +kernel
theorem dX12_defaults_113 : decode cX12_defaults 113 = .ok (.getfield 13, 3) := by decide +kernel
theorem dX12_defaults_116 : decode cX12_defaults 116 = .ok (.iload 5, 2) := by decide +kernel
theorem dX12_defaults_118 : decode cX12_defaults 118 = .ok (.iaload, 1) := by decide +kernel
theorem dX12_defaults_119 : decode cX12_defaults 119 = .ok (.iload_n 1, 1) := by decide +kernel
theorem dX12_defaults_120 : decode cX12_defaults 120 = .ok (.if_icmp .ne 48, 3) := by decide +kernel
theorem dX12_defaults_123 : decode cX12_defaults 123 = .ok (.aload_n 0, 1) := by decide +kernel
theorem dX12_defaults_124 : decode cX12_defaults 124 = .ok (.iload 5, 2) := by decide +kernel
theorem dX12_defaults_126 : decode cX12_defaults 126 = .ok (.invokevirtual 250, 3) := by decide +kernel
theorem dX12_defaults_129 : decode cX12_defaults 129 = .ok (.ifCond .eq 39, 3) := by decide +kernel
theorem dX12_defaults_132 : decode cX12_defaults 132 = .ok (.aload_n 0, 1) := by decide +kernel
theorem dX12_defaults_133 : decode cX12_defaults 133 = .ok (.getfield 22, 3) := by decide +kernel
theorem dX12_defaults_136 : decode cX12_defaults 136 = .ok (.iload 5, 2) := by decide +kernel
theorem dX12_defaults_138 : decode cX12_defaults 138 = .ok (.iaload, 1) := by decide +kernel
theorem dX12_defaults_139 : decode cX12_defaults 139 = .ok (.ifCond .ge 7, 3) := by decide +kernel
theorem dX12_defaults_142 : decode cX12_defaults 142 = .ok (.iconst 0, 1) := by decide +kernel
theorem dX12_defaults_143 : decode cX12_defaults 143 = .ok (.goto 17, 3) := by decide +kernel
theorem dX12_defaults_146 : decode cX12_defaults 146 = .ok (.aload_n 0, 1) := by decide +kernel
theorem dX12_defaults_147 : decode cX12_defaults 147 = .ok (.getfield 38, 3) := by decide +kernel
theorem dX12_defaults_150 : decode cX12_defaults 150 = .ok (.aload_n 0, 1) := by decide +kernel
theorem dX12_defaults_151 : decode cX12_defaults 151 = .ok (.getfield 22, 3) := by decide +kernel
theorem dX12_defaults_154 : decode cX12_defaults 154 = .ok (.iload 5, 2) := by decide +kernel
theorem dX12_defaults_156 : decode cX12_defaults 156 = .ok (.iaload, 1) := by decide +kernel
theorem dX12_defaults_157 : decode cX12_defaults 157 = .ok (.iaload, 1) := by decide +kernel
theorem dX12_defaults_158 : decode cX12_defaults 158 = .ok (.iconst 1, 1) := by decide +kernel
theorem dX12_defaults_159 : decode cX12_defaults 159 = .ok (.iadd, 1) := by decide +kernel
theorem dX12_defaults_160 : decode cX12_defaults 160 = .ok (.iload_n 2, 1) := by decide +kernel
theorem dX12_defaults_161 : decode cX12_defaults 161 = .ok (.if_icmp .ne 7, 3) := by decide +kernel
theorem dX12_defaults_164 : decode cX12_defaults 164 = .ok (.iconst 1, 1) := by decide +kernel
theorem dX12_defaults_165 : decode cX12_defaults 165 = .ok (.goto 4, 3) := by decide +kernel
theorem dX12_defaults_168 : decode cX12_defaults 168 = .ok (.iconst 0, 1) := by decide +kernel
theorem dX12_defaults_169 : decode cX12_defaults 169 = .ok (.istore 6, 2) := by decide +kernel
theorem dX12_defaults_171 : decode cX12_defaults 171 = .ok (.lload_n 3, 1) := by decide +kernel
theorem dX12_defaults_172 : decode cX12_defaults 172 = .ok (.iload 6, 2) := by decide +kernel
theorem dX12_defaults_174 : decode cX12_defaults 174 = .ok (.ifCond .eq 15, 3) := by decide +kernel
theorem dX12_defaults_177 : decode cX12_defaults 177 = .ok (.lconst 1, 1) := by decide +kernel
theorem dX12_defaults_178 : decode cX12_defaults 178 = .ok (.aload_n 0, 1) := by decide +kernel
theorem dX12_defaults_179 : decode cX12_defaults 179 = .ok (.getfield 16, 3) := by decide +kernel
theorem dX12_defaults_182 : decode cX12_defaults 182 = .ok (.iload 5, 2) := by decide +kernel
theorem dX12_defaults_184 : decode cX12_defaults 184 = .ok (.iaload, 1) := by decide +kernel
theorem dX12_defaults_185 : decode cX12_defaults 185 = .ok (.lshl, 1) := by decide +kernel
theorem dX12_defaults_186 : decode cX12_defaults 186 = .ok (.goto 4, 3) := by decide +kernel
theorem dX12_defaults_189 : decode cX12_defaults 189 = .ok (.lconst 0, 1) := by decide +kernel
theorem dX12_defaults_190 : decode cX12_defaults 190 = .ok (.lor, 1) := by decide +kernel
theorem dX12_defaults_191 : decode cX12_defaults 191 = .ok (.lstore_n 3, 1) := by decide +kernel
theorem dX12_defaults_192 : decode cX12_defaults 192 = .ok (.iinc 5 1, 3) := by decide +kernel
theorem dX12_defaults_195 : decode cX12_defaults 195 = .ok (.goto (-103), 3) := by decide +kernel
theorem dX12_defaults_198 : decode cX12_defaults 198 = .ok (.lload_n 3, 1) := by decide +kernel
theorem dX12_defaults_199 : decode cX12_defaults 199 = .ok (.aload_n 0, 1) := by decide +kernel
theorem dX12_defaults_200 : decode cX12_defaults 200 = .ok (.getfield 147, 3) := by decide +kernel
theorem dX12_defaults_203 : decode cX12_defaults 203 = .ok (.iload_n 1, 1) := by decide +kernel
theorem dX12_defaults_204 : decode cX12_defaults 204 = .ok (.laload, 1) := by decide +kernel
theorem dX12_defaults_205 : decode cX12_defaults 205 = .ok (.land, 1) := by decide +kernel
theorem dX12_defaults_206 : decode cX12_defaults 206 = .ok (.lstore_n 3, 1) := by decide +kernel
theorem dX12_defaults_207 : decode cX12_defaults 207 = .ok (.lload_n 3, 1) := by decide +kernel
theorem dX12_defaults_208 : decode cX12_defaults 208 = .ok (.invokestatic 270, 3) := by decide +kernel
theorem dX12_defaults_211 : decode cX12_defaults 211 = .ok (.iconst 1, 1) := by decide +kernel
theorem dX12_defaults_212 : decode cX12_defaults 212 = .ok (.if_icmp .ne 81, 3) := by decide +kernel
theorem dX12_defaults_215 : decode cX12_defaults 215 = .ok (.iconst 0, 1) := by decide +kernel
theorem dX12_defaults_216 : decode cX12_defaults 216 = .ok (.istore 5, 2) := by decide +kernel
theorem dX12_defaults_218 : decode cX12_defaults 218 = .ok (.iload 5, 2) := by decide +kernel
theorem dX12_defaults_220 : decode cX12_defaults 220 = .ok (.bipush 10, 2) := by decide +kernel
theorem dX12_defaults_222 : decode cX12_defaults 222 = .ok (.if_icmp .ge 23, 3) := by decide +kernel
theorem dX12_defaults_225 : decode cX12_defaults 225 = .ok (.aload_n 0, 1) := by decide +kernel
theorem dX12_defaults_226 : decode cX12_defaults 226 = .ok (.getfield 154, 3) := by decide +kernel
theorem dX12_defaults_229 : decode cX12_defaults 229 = .ok (.iload 5, 2) := by decide +kernel
theorem dX12_defaults_231 : decode cX12_defaults 231 = .ok (.aload_n 0, 1) := by decide +kernel
theorem dX12_defaults_232 : decode cX12_defaults 232 = .ok (.getfield 147, 3) := by decide +kernel
theorem dX12_defaults_235 : decode cX12_defaults 235 = .ok (.iload 5, 2) := by decide +kernel
theorem dX12_defaults_237 : decode cX12_defaults 237 = .ok (.laload, 1) := by decide +kernel
theorem dX12_defaults_238 : decode cX12_defaults 238 = .ok (.lastore, 1) := by decide +kernel
theorem dX12_defaults_239 : decode cX12_defaults 239 = .ok (.iinc 5 1, 3) := by decide +kernel
theorem dX12_defaults_242 : decode cX12_defaults 242 = .ok (.goto (-24), 3) := by decide +kernel
theorem dX12_defaults_245 : decode cX12_defaults 245 = .ok (.aload_n 0, 1) := by decide +kernel
theorem dX12_defaults_246 : decode cX12_defaults 246 = .ok (.getfield 147, 3) := by decide +kernel
theorem dX12_defaults_249 : decode cX12_defaults 249 = .ok (.iload_n 1, 1) := by decide +kernel
theorem dX12_defaults_250 : decode cX12_defaults 250 = .ok (.lload_n 3, 1) := by decide +kernel
theorem dX12_defaults_251 : decode cX12_defaults 251 = .ok (.lastore, 1) := by decide +kernel
theorem dX12_defaults_252 : decode cX12_defaults 252 = .ok (.aload_n 0, 1) := by decide +kernel
theorem dX12_defaults_253 : decode cX12_defaults 253 = .ok (.invokevirtual 260, 3) := by decide +kernel
theorem dX12_defaults_256 : decode cX12_defaults 256 = .ok (.aload_n 0, 1) := by decide +kernel
theorem dX12_defaults_257 : decode cX12_defaults 257 = .ok (.invokevirtual 263, 3) := by decide +kernel
theorem dX12_defaults_260 : decode cX12_defaults 260 = .ok (.ifCond .eq 33, 3) := by decide +kernel
theorem dX12_defaults_263 : decode cX12_defaults 263 = .ok (.iconst 0, 1) := by decide +kernel
theorem dX12_defaults_264 : decode cX12_defaults 264 = .ok (.istore 5, 2) := by decide +kernel
theorem dX12_defaults_266 : decode cX12_defaults 266 = .ok (.iload 5, 2) := by decide +kernel
theorem dX12_defaults_268 : decode cX12_defaults 268 = .ok (.bipush 10, 2) := by decide +kernel
theorem dX12_defaults_270 : decode cX12_defaults 270 = .ok (.if_icmp .ge 23, 3) := by decide +kernel
theorem dX12_defaults_273 : decode cX12_defaults 273 = .ok (.aload_n 0, 1) := by decide +kernel
theorem dX12_defaults_274 : decode cX12_defaults 274 = .ok (.getfield 147, 3) := by decide +kernel
theorem dX12_defaults_277 : decode cX12_defaults 277 = .ok (.iload 5, 2) := by decide +kernel
theorem dX12_defaults_279 : decode cX12_defaults 279 = .ok (.aload_n 0, 1) := by decide +kernel
theorem dX12_defaults_280 : decode cX12_defaults 280 = .ok (.getfield 154, 3) := by decide +kernel
theorem dX12_defaults_283 : decode cX12_defaults 283 = .ok (.iload 5, 2) := by decide +kernel
theorem dX12_defaults_285 : decode cX12_defaults 285 = .ok (.laload, 1) := by decide +kernel
theorem dX12_defaults_286 : decode cX12_defaults 286 = .ok (.lastore, 1) := by decide +kernel
theorem dX12_defaults_287 : decode cX12_defaults 287 = .ok (.iinc 5 1, 3) := by decide +kernel
theorem dX12_defaults_290 : decode cX12_defaults 290 = .ok (.goto (-24), 3) := by decide +kernel
theorem dX12_defaults_293 : decode cX12_defaults 293 = .ok (.return_, 1) := by decide +kernel
theorem dX12_plains_0 : decode cX12_plains 0 = .ok (.iconst 0, 1) := by decide +kernel
theorem dX12_plains_1 : decode cX12_plains 1 = .ok (.istore_n 1, 1) := by decide +kernel
theorem dX12_plains_2 : decode cX12_plains 2 = .ok (.iload_n 1, 1) := by decide +kernel
theorem dX12_plains_3 : decode cX12_plains 3 = .ok (.bipush 10, 2) := by decide +kernel
theorem dX12_plains_5 : decode cX12_plains 5 = .ok (.if_icmp .ge 21, 3) := by decide +kernel
theorem dX12_plains_8 : decode cX12_plains 8 = .ok (.aload_n 0, 1) := by decide +kernel
theorem dX12_plains_9 : decode cX12_plains 9 = .ok (.getfield 147, 3) := by decide +kernel
theorem dX12_plains_12 : decode cX12_plains 12 = .ok (.iload_n 1, 1) := by decide +kernel
theorem dX12_plains_13 : decode cX12_plains 13 = .ok (.aload_n 0, 1) := by decide +kernel
theorem dX12_plains_14 : decode cX12_plains 14 = .ok (.getfield 151, 3) := by decide +kernel
theorem dX12_plains_17 : decode cX12_plains 17 = .ok (.iload_n 1, 1) := by decide +kernel
theorem dX12_plains_18 : decode cX12_plains 18 = .ok (.laload, 1) := by decide +kernel
theorem dX12_plains_19 : decode cX12_plains 19 = .ok (.lastore, 1) := by decide +kernel
theorem dX12_plains_20 : decode cX12_plains 20 = .ok (.iinc 1 1, 3) := by decide +kernel
theorem dX12_plains_23 : decode cX12_plains 23 = .ok (.goto (-21), 3) := by decide +kernel
theorem dX12_plains_26 : decode cX12_plains 26 = .ok (.return_, 1) := by decide +kernel
theorem dX12_standing_0 : decode cX12_standing 0 = .ok (.aload_n 0, 1) := by decide +kernel
theorem dX12_standing_1 : decode cX12_standing 1 = .ok (.iload_n 1, 1) := by decide +kernel
theorem dX12_standing_2 : decode cX12_standing 2 = .ok (.iconst 0, 1) := by decide +kernel
theorem dX12_standing_3 : decode cX12_standing 3 = .ok (.aload_n 0, 1) := by decide +kernel
theorem dX12_standing_4 : decode cX12_standing 4 = .ok (.getfield 183, 3) := by decide +kernel
theorem dX12_standing_7 : decode cX12_standing 7 = .ok (.iconst 1, 1) := by decide +kernel
theorem dX12_standing_8 : decode cX12_standing 8 = .ok (.isub, 1) := by decide +kernel
theorem dX12_standing_9 : decode cX12_standing 9 = .ok (.invokestatic 169, 3) := by decide +kernel
theorem dX12_standing_12 : decode cX12_standing 12 = .ok (.ifCond .eq 7, 3) := by decide +kernel
theorem dX12_standing_15 : decode cX12_standing 15 = .ok (.iconst 0, 1) := by decide +kernel
theorem dX12_standing_16 : decode cX12_standing 16 = .ok (.goto 4, 3) := by decide +kernel
theorem dX12_standing_19 : decode cX12_standing 19 = .ok (.iconst 1, 1) := by decide +kernel
theorem dX12_standing_20 : decode cX12_standing 20 = .ok (.putfield 166, 3) := by decide +kernel
theorem dX12_standing_23 : decode cX12_standing 23 = .ok (.aload_n 0, 1) := by decide +kernel
theorem dX12_standing_24 : decode cX12_standing 24 = .ok (.getfield 166, 3) := by decide +kernel
theorem dX12_standing_27 : decode cX12_standing 27 = .ok (.ifCond .le 5, 3) := by decide +kernel
theorem dX12_standing_30 : decode cX12_standing 30 = .ok (.iconst 0, 1) := by decide +kernel
theorem dX12_standing_31 : decode cX12_standing 31 = .ok (.ireturn, 1) := by decide +kernel
theorem dX12_standing_32 : decode cX12_standing 32 = .ok (.aload_n 0, 1) := by decide +kernel
theorem dX12_standing_33 : decode cX12_standing 33 = .ok (.invokevirtual 276, 3) := by decide +kernel
theorem dX12_standing_36 : decode cX12_standing 36 = .ok (.aload_n 0, 1) := by decide +kernel
theorem dX12_standing_37 : decode cX12_standing 37 = .ok (.invokevirtual 279, 3) := by decide +kernel
theorem dX12_standing_40 : decode cX12_standing 40 = .ok (.aload_n 0, 1) := by decide +kernel
theorem dX12_standing_41 : decode cX12_standing 41 = .ok (.getfield 135, 3) := by decide +kernel
theorem dX12_standing_44 : decode cX12_standing 44 = .ok (.iload_n 1, 1) := by decide +kernel
theorem dX12_standing_45 : decode cX12_standing 45 = .ok (.baload, 1) := by decide +kernel
theorem dX12_standing_46 : decode cX12_standing 46 = .ok (.ifCond .ne 7, 3) := by decide +kernel
theorem dX12_standing_49 : decode cX12_standing 49 = .ok (.iconst (-1), 1) := by decide +kernel
theorem dX12_standing_50 : decode cX12_standing 50 = .ok (.goto 46, 3) := by decide +kernel
theorem dX12_standing_53 : decode cX12_standing 53 = .ok (.aload_n 0, 1) := by decide +kernel
theorem dX12_standing_54 : decode cX12_standing 54 = .ok (.getfield 141, 3) := by decide +kernel
theorem dX12_standing_57 : decode cX12_standing 57 = .ok (.iload_n 1, 1) := by decide +kernel
theorem dX12_standing_58 : decode cX12_standing 58 = .ok (.iaload, 1) := by decide +kernel
theorem dX12_standing_59 : decode cX12_standing 59 = .ok (.ifCond .le 12, 3) := by decide +kernel
theorem dX12_standing_62 : decode cX12_standing 62 = .ok (.aload_n 0, 1) := by decide +kernel
theorem dX12_standing_63 : decode cX12_standing 63 = .ok (.getfield 141, 3) := by decide +kernel
theorem dX12_standing_66 : decode cX12_standing 66 = .ok (.iload_n 1, 1) := by decide +kernel
theorem dX12_standing_67 : decode cX12_standing 67 = .ok (.iaload, 1) := by decide +kernel
theorem dX12_standing_68 : decode cX12_standing 68 = .ok (.goto 28, 3) := by decide +kernel
theorem dX12_standing_71 : decode cX12_standing 71 = .ok (.aload_n 0, 1) := by decide +kernel
theorem dX12_standing_72 : decode cX12_standing 72 = .ok (.getfield 7, 3) := by decide +kernel
theorem dX12_standing_75 : decode cX12_standing 75 = .ok (.iload_n 1, 1) := by decide +kernel
theorem dX12_standing_76 : decode cX12_standing 76 = .ok (.iaload, 1) := by decide +kernel
theorem dX12_standing_77 : decode cX12_standing 77 = .ok (.bipush 7, 2) := by decide +kernel
theorem dX12_standing_79 : decode cX12_standing 79 = .ok (.if_icmp .ge 16, 3) := by decide +kernel
theorem dX12_standing_82 : decode cX12_standing 82 = .ok (.aload_n 0, 1) := by decide +kernel
theorem dX12_standing_83 : decode cX12_standing 83 = .ok (.iload_n 1, 1) := by decide +kernel
theorem dX12_standing_84 : decode cX12_standing 84 = .ok (.invokevirtual 228, 3) := by decide +kernel
theorem dX12_standing_87 : decode cX12_standing 87 = .ok (.ifCond .ne 8, 3) := by decide +kernel
theorem dX12_standing_90 : decode cX12_standing 90 = .ok (.bipush 10, 2) := by decide +kernel
theorem dX12_standing_92 : decode cX12_standing 92 = .ok (.goto 4, 3) := by decide +kernel
theorem dX12_standing_95 : decode cX12_standing 95 = .ok (.iconst 0, 1) := by decide +kernel
theorem dX12_standing_96 : decode cX12_standing 96 = .ok (.ireturn, 1) := by decide +kernel
theorem dX12_asksField_0 : decode cX12_asksField 0 = .ok (.aload_n 0, 1) := by decide +kernel
theorem dX12_asksField_1 : decode cX12_asksField 1 = .ok (.iload_n 1, 1) := by decide +kernel
theorem dX12_asksField_2 : decode cX12_asksField 2 = .ok (.invokestatic 173, 3) := by decide +kernel
theorem dX12_asksField_5 : decode cX12_asksField 5 = .ok (.ifCond .eq 7, 3) := by decide +kernel
theorem dX12_asksField_8 : decode cX12_asksField 8 = .ok (.iconst 0, 1) := by decide +kernel
theorem dX12_asksField_9 : decode cX12_asksField 9 = .ok (.goto 4, 3) := by decide +kernel
theorem dX12_asksField_12 : decode cX12_asksField 12 = .ok (.iconst 1, 1) := by decide +kernel
theorem dX12_asksField_13 : decode cX12_asksField 13 = .ok (.putfield 166, 3) := by decide +kernel
theorem dX12_asksField_16 : decode cX12_asksField 16 = .ok (.aload_n 0, 1) := by decide +kernel
theorem dX12_asksField_17 : decode cX12_asksField 17 = .ok (.getfield 166, 3) := by decide +kernel
theorem dX12_asksField_20 : decode cX12_asksField 20 = .ok (.ifCond .ne 7, 3) := by decide +kernel
theorem dX12_asksField_23 : decode cX12_asksField 23 = .ok (.iconst 1, 1) := by decide +kernel
theorem dX12_asksField_24 : decode cX12_asksField 24 = .ok (.goto 4, 3) := by decide +kernel
theorem dX12_asksField_27 : decode cX12_asksField 27 = .ok (.iconst 0, 1) := by decide +kernel
theorem dX12_asksField_28 : decode cX12_asksField 28 = .ok (.ireturn, 1) := by decide +kernel
theorem dX12_valueOf_0 : decode cX12_valueOf 0 = .ok (.aload_n 0, 1) := by decide +kernel
theorem dX12_valueOf_1 : decode cX12_valueOf 1 = .ok (.getfield 267, 3) := by decide +kernel
theorem dX12_valueOf_4 : decode cX12_valueOf 4 = .ok (.ifCond .eq 8, 3) := by decide +kernel
theorem dX12_valueOf_7 : decode cX12_valueOf 7 = .ok (.bipush (-2), 2) := by decide +kernel
theorem dX12_valueOf_9 : decode cX12_valueOf 9 = .ok (.goto 29, 3) := by decide +kernel
theorem dX12_valueOf_12 : decode cX12_valueOf 12 = .ok (.aload_n 0, 1) := by decide +kernel
theorem dX12_valueOf_13 : decode cX12_valueOf 13 = .ok (.getfield 147, 3) := by decide +kernel
theorem dX12_valueOf_16 : decode cX12_valueOf 16 = .ok (.iload_n 1, 1) := by decide +kernel
theorem dX12_valueOf_17 : decode cX12_valueOf 17 = .ok (.laload, 1) := by decide +kernel
theorem dX12_valueOf_18 : decode cX12_valueOf 18 = .ok (.invokestatic 270, 3) := by decide +kernel
theorem dX12_valueOf_21 : decode cX12_valueOf 21 = .ok (.iconst 1, 1) := by decide +kernel
theorem dX12_valueOf_22 : decode cX12_valueOf 22 = .ok (.if_icmp .ne 15, 3) := by decide +kernel
theorem dX12_valueOf_25 : decode cX12_valueOf 25 = .ok (.aload_n 0, 1) := by decide +kernel
theorem dX12_valueOf_26 : decode cX12_valueOf 26 = .ok (.getfield 147, 3) := by decide +kernel
theorem dX12_valueOf_29 : decode cX12_valueOf 29 = .ok (.iload_n 1, 1) := by decide +kernel
theorem dX12_valueOf_30 : decode cX12_valueOf 30 = .ok (.laload, 1) := by decide +kernel
theorem dX12_valueOf_31 : decode cX12_valueOf 31 = .ok (.invokestatic 247, 3) := by decide +kernel
theorem dX12_valueOf_34 : decode cX12_valueOf 34 = .ok (.goto 4, 3) := by decide +kernel
theorem dX12_valueOf_37 : decode cX12_valueOf 37 = .ok (.iconst (-1), 1) := by decide +kernel
theorem dX12_valueOf_38 : decode cX12_valueOf 38 = .ok (.ireturn, 1) := by decide +kernel
theorem dX12_value_0 : decode cX12_value 0 = .ok (.aload_n 0, 1) := by decide +kernel
theorem dX12_value_1 : decode cX12_value 1 = .ok (.iload_n 1, 1) := by decide +kernel
theorem dX12_value_2 : decode cX12_value 2 = .ok (.invokevirtual 282, 3) := by decide +kernel
theorem dX12_value_5 : decode cX12_value 5 = .ok (.ifCond .ne 5, 3) := by decide +kernel
theorem dX12_value_8 : decode cX12_value 8 = .ok (.iconst 0, 1) := by decide +kernel
theorem dX12_value_9 : decode cX12_value 9 = .ok (.ireturn, 1) := by decide +kernel
theorem dX12_value_10 : decode cX12_value 10 = .ok (.aload_n 0, 1) := by decide +kernel
theorem dX12_value_11 : decode cX12_value 11 = .ok (.invokevirtual 276, 3) := by decide +kernel
theorem dX12_value_14 : decode cX12_value 14 = .ok (.aload_n 0, 1) := by decide +kernel
theorem dX12_value_15 : decode cX12_value 15 = .ok (.iload_n 1, 1) := by decide +kernel
theorem dX12_value_16 : decode cX12_value 16 = .ok (.invokevirtual 285, 3) := by decide +kernel
theorem dX12_value_19 : decode cX12_value 19 = .ok (.ireturn, 1) := by decide +kernel
theorem dX12_told_0 : decode cX12_told 0 = .ok (.aload_n 0, 1) := by decide +kernel
theorem dX12_told_1 : decode cX12_told 1 = .ok (.iload_n 1, 1) := by decide +kernel
theorem dX12_told_2 : decode cX12_told 2 = .ok (.invokevirtual 282, 3) := by decide +kernel
theorem dX12_told_5 : decode cX12_told 5 = .ok (.ifCond .ne 5, 3) := by decide +kernel
theorem dX12_told_8 : decode cX12_told 8 = .ok (.iconst 0, 1) := by decide +kernel
theorem dX12_told_9 : decode cX12_told 9 = .ok (.ireturn, 1) := by decide +kernel
theorem dX12_told_10 : decode cX12_told 10 = .ok (.aload_n 0, 1) := by decide +kernel
theorem dX12_told_11 : decode cX12_told 11 = .ok (.invokevirtual 276, 3) := by decide +kernel
theorem dX12_told_14 : decode cX12_told 14 = .ok (.aload_n 0, 1) := by decide +kernel
theorem dX12_told_15 : decode cX12_told 15 = .ok (.getfield 151, 3) := by decide +kernel
theorem dX12_told_18 : decode cX12_told 18 = .ok (.iload_n 1, 1) := by decide +kernel
theorem dX12_told_19 : decode cX12_told 19 = .ok (.laload, 1) := by decide +kernel
theorem dX12_told_20 : decode cX12_told 20 = .ok (.lstore_n 2, 1) := by decide +kernel
theorem dX12_told_21 : decode cX12_told 21 = .ok (.lload_n 2, 1) := by decide +kernel
theorem dX12_told_22 : decode cX12_told 22 = .ok (.lconst 0, 1) := by decide +kernel
theorem dX12_told_23 : decode cX12_told 23 = .ok (.lcmp, 1) := by decide +kernel
theorem dX12_told_24 : decode cX12_told 24 = .ok (.ifCond .ne 7, 3) := by decide +kernel
theorem dX12_told_27 : decode cX12_told 27 = .ok (.iconst 0, 1) := by decide +kernel
theorem dX12_told_28 : decode cX12_told 28 = .ok (.goto 24, 3) := by decide +kernel
theorem dX12_told_31 : decode cX12_told 31 = .ok (.sipush 10000, 3) := by decide +kernel
theorem dX12_told_34 : decode cX12_told 34 = .ok (.lload_n 2, 1) := by decide +kernel
theorem dX12_told_35 : decode cX12_told 35 = .ok (.invokestatic 270, 3) := by decide +kernel
theorem dX12_told_38 : decode cX12_told 38 = .ok (.imul, 1) := by decide +kernel
theorem dX12_told_39 : decode cX12_told 39 = .ok (.bipush 100, 2) := by decide +kernel
theorem dX12_told_41 : decode cX12_told 41 = .ok (.lload_n 2, 1) := by decide +kernel
theorem dX12_told_42 : decode cX12_told 42 = .ok (.invokestatic 247, 3) := by decide +kernel
theorem dX12_told_45 : decode cX12_told 45 = .ok (.imul, 1) := by decide +kernel
theorem dX12_told_46 : decode cX12_told 46 = .ok (.iadd, 1) := by decide +kernel
theorem dX12_told_47 : decode cX12_told 47 = .ok (.lload_n 2, 1) := by decide +kernel
theorem dX12_told_48 : decode cX12_told 48 = .ok (.invokestatic 243, 3) := by decide +kernel
theorem dX12_told_51 : decode cX12_told 51 = .ok (.iadd, 1) := by decide +kernel
theorem dX12_told_52 : decode cX12_told 52 = .ok (.ireturn, 1) := by decide +kernel
theorem dX12_set_0 : decode cX12_set 0 = .ok (.aload_n 0, 1) := by decide +kernel
theorem dX12_set_1 : decode cX12_set 1 = .ok (.iload_n 1, 1) := by decide +kernel
theorem dX12_set_2 : decode cX12_set 2 = .ok (.invokevirtual 288, 3) := by decide +kernel
theorem dX12_set_5 : decode cX12_set 5 = .ok (.ireturn, 1) := by decide +kernel
theorem dX12_setAnew_0 : decode cX12_setAnew 0 = .ok (.aload_n 0, 1) := by decide +kernel
theorem dX12_setAnew_1 : decode cX12_setAnew 1 = .ok (.iload_n 1, 1) := by decide +kernel
theorem dX12_setAnew_2 : decode cX12_setAnew 2 = .ok (.invokevirtual 288, 3) := by decide +kernel
theorem dX12_setAnew_5 : decode cX12_setAnew 5 = .ok (.ireturn, 1) := by decide +kernel
theorem dX12_isConflict_0 : decode cX12_isConflict 0 = .ok (.iconst 0, 1) := by decide +kernel
theorem dX12_isConflict_1 : decode cX12_isConflict 1 = .ok (.istore 4, 2) := by decide +kernel
theorem dX12_isConflict_3 : decode cX12_isConflict 3 = .ok (.iload 4, 2) := by decide +kernel
theorem dX12_isConflict_5 : decode cX12_isConflict 5 = .ok (.bipush 30, 2) := by decide +kernel
theorem dX12_isConflict_7 : decode cX12_isConflict 7 = .ok (.if_icmp .ge 39, 3) := by decide +kernel
theorem dX12_isConflict_10 : decode cX12_isConflict 10 = .ok (.aload_n 0, 1) := by decide +kernel
theorem dX12_isConflict_11 : decode cX12_isConflict 11 = .ok (.getfield 144, 3) := by decide +kernel
theorem dX12_isConflict_14 : decode cX12_isConflict 14 = .ok (.iload 4, 2) := by decide +kernel
theorem dX12_isConflict_16 : decode cX12_isConflict 16 = .ok (.iload 4, 2) := by decide +kernel
theorem dX12_isConflict_18 : decode cX12_isConflict 18 = .ok (.iload_n 1, 1) := by decide +kernel
theorem dX12_isConflict_19 : decode cX12_isConflict 19 = .ok (.if_icmp .eq 15, 3) := by decide +kernel
theorem dX12_isConflict_22 : decode cX12_isConflict 22 = .ok (.iload 4, 2) := by decide +kernel
theorem dX12_isConflict_24 : decode cX12_isConflict 24 = .ok (.iload_n 2, 1) := by decide +kernel
theorem dX12_isConflict_25 : decode cX12_isConflict 25 = .ok (.if_icmp .eq 9, 3) := by decide +kernel
theorem dX12_isConflict_28 : decode cX12_isConflict 28 = .ok (.iload 4, 2) := by decide +kernel
theorem dX12_isConflict_30 : decode cX12_isConflict 30 = .ok (.iload_n 3, 1) := by decide +kernel
theorem dX12_isConflict_31 : decode cX12_isConflict 31 = .ok (.if_icmp .ne 7, 3) := by decide +kernel
theorem dX12_isConflict_34 : decode cX12_isConflict 34 = .ok (.iconst 1, 1) := by decide +kernel
theorem dX12_isConflict_35 : decode cX12_isConflict 35 = .ok (.goto 4, 3) := by decide +kernel
theorem dX12_isConflict_38 : decode cX12_isConflict 38 = .ok (.iconst 0, 1) := by decide +kernel
theorem dX12_isConflict_39 : decode cX12_isConflict 39 = .ok (.bastore, 1) := by decide +kernel
theorem dX12_isConflict_40 : decode cX12_isConflict 40 = .ok (.iinc 4 1, 3) := by decide +kernel
theorem dX12_isConflict_43 : decode cX12_isConflict 43 = .ok (.goto (-40), 3) := by decide +kernel
theorem dX12_isConflict_46 : decode cX12_isConflict 46 = .ok (.aload_n 0, 1) := by decide +kernel
theorem dX12_isConflict_47 : decode cX12_isConflict 47 = .ok (.iconst 1, 1) := by decide +kernel
theorem dX12_isConflict_48 : decode cX12_isConflict 48 = .ok (.putfield 224, 3) := by decide +kernel
theorem dX12_isConflict_51 : decode cX12_isConflict 51 = .ok (.aload_n 0, 1) := by decide +kernel
theorem dX12_isConflict_52 : decode cX12_isConflict 52 = .ok (.invokevirtual 257, 3) := by decide +kernel
theorem dX12_isConflict_55 : decode cX12_isConflict 55 = .ok (.aload_n 0, 1) := by decide +kernel
theorem dX12_isConflict_56 : decode cX12_isConflict 56 = .ok (.invokevirtual 260, 3) := by decide +kernel
theorem dX12_isConflict_59 : decode cX12_isConflict 59 = .ok (.aload_n 0, 1) := by decide +kernel
theorem dX12_isConflict_60 : decode cX12_isConflict 60 = .ok (.iconst 0, 1) := by decide +kernel
theorem dX12_isConflict_61 : decode cX12_isConflict 61 = .ok (.putfield 224, 3) := by decide +kernel
theorem dX12_isConflict_64 : decode cX12_isConflict 64 = .ok (.aload_n 0, 1) := by decide +kernel
theorem dX12_isConflict_65 : decode cX12_isConflict 65 = .ok (.invokevirtual 263, 3) := by decide +kernel
theorem dX12_isConflict_68 : decode cX12_isConflict 68 = .ok (.ireturn, 1) := by decide +kernel
theorem dX12_may_0 : decode cX12_may 0 = .ok (.iload_n 1, 1) := by decide +kernel
theorem dX12_may_1 : decode cX12_may 1 = .ok (.ifCond .lt 12, 3) := by decide +kernel
theorem dX12_may_4 : decode cX12_may 4 = .ok (.aload_n 0, 1) := by decide +kernel
theorem dX12_may_5 : decode cX12_may 5 = .ok (.getfield 163, 3) := by decide +kernel
theorem dX12_may_8 : decode cX12_may 8 = .ok (.iload_n 1, 1) := by decide +kernel
theorem dX12_may_9 : decode cX12_may 9 = .ok (.baload, 1) := by decide +kernel
theorem dX12_may_10 : decode cX12_may 10 = .ok (.ifCond .eq 7, 3) := by decide +kernel
theorem dX12_may_13 : decode cX12_may 13 = .ok (.iconst 1, 1) := by decide +kernel
theorem dX12_may_14 : decode cX12_may 14 = .ok (.goto 4, 3) := by decide +kernel
theorem dX12_may_17 : decode cX12_may 17 = .ok (.iconst 0, 1) := by decide +kernel
theorem dX12_may_18 : decode cX12_may 18 = .ok (.ireturn, 1) := by decide +kernel
theorem dX12_leastConflict_0 : decode cX12_leastConflict 0 = .ok (.iconst 0, 1) := by decide +kernel
theorem dX12_leastConflict_1 : decode cX12_leastConflict 1 = .ok (.istore_n 2, 1) := by decide +kernel
theorem dX12_leastConflict_2 : decode cX12_leastConflict 2 = .ok (.iload_n 2, 1) := by decide +kernel
theorem dX12_leastConflict_3 : decode cX12_leastConflict 3 = .ok (.aload_n 0, 1) := by decide +kernel
theorem dX12_leastConflict_4 : decode cX12_leastConflict 4 = .ok (.getfield 183, 3) := by decide +kernel
theorem dX12_leastConflict_7 : decode cX12_leastConflict 7 = .ok (.if_icmp .ge 140, 3) := by decide +kernel
theorem dX12_leastConflict_10 : decode cX12_leastConflict 10 = .ok (.iload_n 1, 1) := by decide +kernel
theorem dX12_leastConflict_11 : decode cX12_leastConflict 11 = .ok (.iconst 1, 1) := by decide +kernel
theorem dX12_leastConflict_12 : decode cX12_leastConflict 12 = .ok (.if_icmp .le 7, 3) := by decide +kernel
theorem dX12_leastConflict_15 : decode cX12_leastConflict 15 = .ok (.iconst 0, 1) := by decide +kernel
theorem dX12_leastConflict_16 : decode cX12_leastConflict 16 = .ok (.goto 4, 3) := by decide +kernel
theorem dX12_leastConflict_19 : decode cX12_leastConflict 19 = .ok (.iconst (-1), 1) := by decide +kernel
theorem dX12_leastConflict_20 : decode cX12_leastConflict 20 = .ok (.istore_n 3, 1) := by decide +kernel
theorem dX12_leastConflict_21 : decode cX12_leastConflict 21 = .ok (.iload_n 3, 1) := by decide +kernel
theorem dX12_leastConflict_22 : decode cX12_leastConflict 22 = .ok (.iload_n 1, 1) := by decide +kernel
theorem dX12_leastConflict_23 : decode cX12_leastConflict 23 = .ok (.iconst 1, 1) := by decide +kernel
theorem dX12_leastConflict_24 : decode cX12_leastConflict 24 = .ok (.if_icmp .le 7, 3) := by decide +kernel
theorem dX12_leastConflict_27 : decode cX12_leastConflict 27 = .ok (.iload_n 2, 1) := by decide +kernel
theorem dX12_leastConflict_28 : decode cX12_leastConflict 28 = .ok (.goto 4, 3) := by decide +kernel
theorem dX12_leastConflict_31 : decode cX12_leastConflict 31 = .ok (.iconst 0, 1) := by decide +kernel
theorem dX12_leastConflict_32 : decode cX12_leastConflict 32 = .ok (.if_icmp .ge 109, 3) := by decide +kernel
theorem dX12_leastConflict_35 : decode cX12_leastConflict 35 = .ok (.iload_n 1, 1) := by decide +kernel
theorem dX12_leastConflict_36 : decode cX12_leastConflict 36 = .ok (.iconst 2, 1) := by decide +kernel
theorem dX12_leastConflict_37 : decode cX12_leastConflict 37 = .ok (.if_icmp .le 7, 3) := by decide +kernel
theorem dX12_leastConflict_40 : decode cX12_leastConflict 40 = .ok (.iconst 0, 1) := by decide +kernel
theorem dX12_leastConflict_41 : decode cX12_leastConflict 41 = .ok (.goto 4, 3) := by decide +kernel
theorem dX12_leastConflict_44 : decode cX12_leastConflict 44 = .ok (.iconst (-1), 1) := by decide +kernel
theorem dX12_leastConflict_45 : decode cX12_leastConflict 45 = .ok (.istore 4, 2) := by decide +kernel
theorem dX12_leastConflict_47 : decode cX12_leastConflict 47 = .ok (.iload 4, 2) := by decide +kernel
theorem dX12_leastConflict_49 : decode cX12_leastConflict 49 = .ok (.iload_n 1, 1) := by decide +kernel
theorem dX12_leastConflict_50 : decode cX12_leastConflict 50 = .ok (.iconst 2, 1) := by decide +kernel
theorem dX12_leastConflict_51 : decode cX12_leastConflict 51 = .ok (.if_icmp .le 7, 3) := by decide +kernel
theorem dX12_leastConflict_54 : decode cX12_leastConflict 54 = .ok (.iload_n 3, 1) := by decide +kernel
theorem dX12_leastConflict_55 : decode cX12_leastConflict 55 = .ok (.goto 4, 3) := by decide +kernel
theorem dX12_leastConflict_58 : decode cX12_leastConflict 58 = .ok (.iconst 0, 1) := by decide +kernel
theorem dX12_leastConflict_59 : decode cX12_leastConflict 59 = .ok (.if_icmp .ge 76, 3) := by decide +kernel
theorem dX12_leastConflict_62 : decode cX12_leastConflict 62 = .ok (.aload_n 0, 1) := by decide +kernel
theorem dX12_leastConflict_63 : decode cX12_leastConflict 63 = .ok (.getfield 163, 3) := by decide +kernel
theorem dX12_leastConflict_66 : decode cX12_leastConflict 66 = .ok (.iload_n 2, 1) := by decide +kernel
theorem dX12_leastConflict_67 : decode cX12_leastConflict 67 = .ok (.baload, 1) := by decide +kernel
theorem dX12_leastConflict_68 : decode cX12_leastConflict 68 = .ok (.ifCond .eq 61, 3) := by decide +kernel
theorem dX12_leastConflict_71 : decode cX12_leastConflict 71 = .ok (.aload_n 0, 1) := by decide +kernel
theorem dX12_leastConflict_72 : decode cX12_leastConflict 72 = .ok (.iload_n 3, 1) := by decide +kernel
theorem dX12_leastConflict_73 : decode cX12_leastConflict 73 = .ok (.invokevirtual 290, 3) := by decide +kernel
theorem dX12_leastConflict_76 : decode cX12_leastConflict 76 = .ok (.ifCond .eq 53, 3) := by decide +kernel
theorem dX12_leastConflict_79 : decode cX12_leastConflict 79 = .ok (.aload_n 0, 1) := by decide +kernel
theorem dX12_leastConflict_80 : decode cX12_leastConflict 80 = .ok (.iload 4, 2) := by decide +kernel
theorem dX12_leastConflict_82 : decode cX12_leastConflict 82 = .ok (.invokevirtual 290, 3) := by decide +kernel
theorem dX12_leastConflict_85 : decode cX12_leastConflict 85 = .ok (.ifCond .eq 44, 3) := by decide +kernel
theorem dX12_leastConflict_88 : decode cX12_leastConflict 88 = .ok (.aload_n 0, 1) := by decide +kernel
theorem dX12_leastConflict_89 : decode cX12_leastConflict 89 = .ok (.iload 4, 2) := by decide +kernel
theorem dX12_leastConflict_91 : decode cX12_leastConflict 91 = .ok (.iload_n 3, 1) := by decide +kernel
theorem dX12_leastConflict_92 : decode cX12_leastConflict 92 = .ok (.iload_n 2, 1) := by decide +kernel
theorem dX12_leastConflict_93 : decode cX12_leastConflict 93 = .ok (.invokevirtual 292, 3) := by decide +kernel
theorem dX12_leastConflict_96 : decode cX12_leastConflict 96 = .ok (.ifCond .eq 33, 3) := by decide +kernel
theorem dX12_leastConflict_99 : decode cX12_leastConflict 99 = .ok (.iconst 1, 1) := by decide +kernel
theorem dX12_leastConflict_100 : decode cX12_leastConflict 100 = .ok (.iload_n 2, 1) := by decide +kernel
theorem dX12_leastConflict_101 : decode cX12_leastConflict 101 = .ok (.ishl, 1) := by decide +kernel
theorem dX12_leastConflict_102 : decode cX12_leastConflict 102 = .ok (.iload_n 3, 1) := by decide +kernel
theorem dX12_leastConflict_103 : decode cX12_leastConflict 103 = .ok (.ifCond .ge 7, 3) := by decide +kernel
theorem dX12_leastConflict_106 : decode cX12_leastConflict 106 = .ok (.iconst 0, 1) := by decide +kernel
theorem dX12_leastConflict_107 : decode cX12_leastConflict 107 = .ok (.goto 6, 3) := by decide +kernel
theorem dX12_leastConflict_110 : decode cX12_leastConflict 110 = .ok (.iconst 1, 1) := by decide +kernel
theorem dX12_leastConflict_111 : decode cX12_leastConflict 111 = .ok (.iload_n 3, 1) := by decide +kernel
theorem dX12_leastConflict_112 : decode cX12_leastConflict 112 = .ok (.ishl, 1) := by decide +kernel
theorem dX12_leastConflict_113 : decode cX12_leastConflict 113 = .ok (.ior, 1) := by decide +kernel
theorem dX12_leastConflict_114 : decode cX12_leastConflict 114 = .ok (.iload 4, 2) := by decide +kernel
theorem dX12_leastConflict_116 : decode cX12_leastConflict 116 = .ok (.ifCond .ge 7, 3) := by decide +kernel
theorem dX12_leastConflict_119 : decode cX12_leastConflict 119 = .ok (.iconst 0, 1) := by decide +kernel
theorem dX12_leastConflict_120 : decode cX12_leastConflict 120 = .ok (.goto 7, 3) := by decide +kernel
theorem dX12_leastConflict_123 : decode cX12_leastConflict 123 = .ok (.iconst 1, 1) := by decide +kernel
theorem dX12_leastConflict_124 : decode cX12_leastConflict 124 = .ok (.iload 4, 2) := by decide +kernel
theorem dX12_leastConflict_126 : decode cX12_leastConflict 126 = .ok (.ishl, 1) := by decide +kernel
theorem dX12_leastConflict_127 : decode cX12_leastConflict 127 = .ok (.ior, 1) := by decide +kernel
theorem dX12_leastConflict_128 : decode cX12_leastConflict 128 = .ok (.ireturn, 1) := by decide +kernel
theorem dX12_leastConflict_129 : decode cX12_leastConflict 129 = .ok (.iinc 4 1, 3) := by decide +kernel
theorem dX12_leastConflict_132 : decode cX12_leastConflict 132 = .ok (.goto (-85), 3) := by decide +kernel
theorem dX12_leastConflict_135 : decode cX12_leastConflict 135 = .ok (.iinc 3 1, 3) := by decide +kernel
theorem dX12_leastConflict_138 : decode cX12_leastConflict 138 = .ok (.goto (-117), 3) := by decide +kernel
theorem dX12_leastConflict_141 : decode cX12_leastConflict 141 = .ok (.iinc 2 1, 3) := by decide +kernel
theorem dX12_leastConflict_144 : decode cX12_leastConflict 144 = .ok (.goto (-142), 3) := by decide +kernel
theorem dX12_leastConflict_147 : decode cX12_leastConflict 147 = .ok (.iconst 0, 1) := by decide +kernel
theorem dX12_leastConflict_148 : decode cX12_leastConflict 148 = .ok (.ireturn, 1) := by decide +kernel
theorem dX12_conflict_0 : decode cX12_conflict 0 = .ok (.aload_n 0, 1) := by decide +kernel
theorem dX12_conflict_1 : decode cX12_conflict 1 = .ok (.iconst 0, 1) := by decide +kernel
theorem dX12_conflict_2 : decode cX12_conflict 2 = .ok (.putfield 166, 3) := by decide +kernel
theorem dX12_conflict_5 : decode cX12_conflict 5 = .ok (.aload_n 0, 1) := by decide +kernel
theorem dX12_conflict_6 : decode cX12_conflict 6 = .ok (.invokevirtual 276, 3) := by decide +kernel
theorem dX12_conflict_9 : decode cX12_conflict 9 = .ok (.aload_n 0, 1) := by decide +kernel
theorem dX12_conflict_10 : decode cX12_conflict 10 = .ok (.getfield 267, 3) := by decide +kernel
theorem dX12_conflict_13 : decode cX12_conflict 13 = .ok (.ifCond .ne 5, 3) := by decide +kernel
theorem dX12_conflict_16 : decode cX12_conflict 16 = .ok (.iconst 0, 1) := by decide +kernel
theorem dX12_conflict_17 : decode cX12_conflict 17 = .ok (.ireturn, 1) := by decide +kernel
theorem dX12_conflict_18 : decode cX12_conflict 18 = .ok (.aload_n 0, 1) := by decide +kernel
theorem dX12_conflict_19 : decode cX12_conflict 19 = .ok (.invokevirtual 279, 3) := by decide +kernel
theorem dX12_conflict_22 : decode cX12_conflict 22 = .ok (.iconst 0, 1) := by decide +kernel
theorem dX12_conflict_23 : decode cX12_conflict 23 = .ok (.istore_n 1, 1) := by decide +kernel
theorem dX12_conflict_24 : decode cX12_conflict 24 = .ok (.iload_n 1, 1) := by decide +kernel
theorem dX12_conflict_25 : decode cX12_conflict 25 = .ok (.aload_n 0, 1) := by decide +kernel
theorem dX12_conflict_26 : decode cX12_conflict 26 = .ok (.getfield 183, 3) := by decide +kernel
theorem dX12_conflict_29 : decode cX12_conflict 29 = .ok (.if_icmp .ge 38, 3) := by decide +kernel
theorem dX12_conflict_32 : decode cX12_conflict 32 = .ok (.aload_n 0, 1) := by decide +kernel
theorem dX12_conflict_33 : decode cX12_conflict 33 = .ok (.getfield 163, 3) := by decide +kernel
theorem dX12_conflict_36 : decode cX12_conflict 36 = .ok (.iload_n 1, 1) := by decide +kernel
theorem dX12_conflict_37 : decode cX12_conflict 37 = .ok (.aload_n 0, 1) := by decide +kernel
theorem dX12_conflict_38 : decode cX12_conflict 38 = .ok (.getfield 7, 3) := by decide +kernel
theorem dX12_conflict_41 : decode cX12_conflict 41 = .ok (.iload_n 1, 1) := by decide +kernel
theorem dX12_conflict_42 : decode cX12_conflict 42 = .ok (.iaload, 1) := by decide +kernel
theorem dX12_conflict_43 : decode cX12_conflict 43 = .ok (.iconst 4, 1) := by decide +kernel
theorem dX12_conflict_44 : decode cX12_conflict 44 = .ok (.if_icmp .eq 15, 3) := by decide +kernel
theorem dX12_conflict_47 : decode cX12_conflict 47 = .ok (.aload_n 0, 1) := by decide +kernel
theorem dX12_conflict_48 : decode cX12_conflict 48 = .ok (.iload_n 1, 1) := by decide +kernel
theorem dX12_conflict_49 : decode cX12_conflict 49 = .ok (.invokevirtual 250, 3) := by decide +kernel
theorem dX12_conflict_52 : decode cX12_conflict 52 = .ok (.ifCond .eq 7, 3) := by decide +kernel
theorem dX12_conflict_55 : decode cX12_conflict 55 = .ok (.iconst 1, 1) := by decide +kernel
theorem dX12_conflict_56 : decode cX12_conflict 56 = .ok (.goto 4, 3) := by decide +kernel
theorem dX12_conflict_59 : decode cX12_conflict 59 = .ok (.iconst 0, 1) := by decide +kernel
theorem dX12_conflict_60 : decode cX12_conflict 60 = .ok (.bastore, 1) := by decide +kernel
theorem dX12_conflict_61 : decode cX12_conflict 61 = .ok (.iinc 1 1, 3) := by decide +kernel
theorem dX12_conflict_64 : decode cX12_conflict 64 = .ok (.goto (-40), 3) := by decide +kernel
theorem dX12_conflict_67 : decode cX12_conflict 67 = .ok (.iconst 0, 1) := by decide +kernel
theorem dX12_conflict_68 : decode cX12_conflict 68 = .ok (.istore_n 1, 1) := by decide +kernel
theorem dX12_conflict_69 : decode cX12_conflict 69 = .ok (.iconst 1, 1) := by decide +kernel
theorem dX12_conflict_70 : decode cX12_conflict 70 = .ok (.istore_n 2, 1) := by decide +kernel
theorem dX12_conflict_71 : decode cX12_conflict 71 = .ok (.iload_n 2, 1) := by decide +kernel
theorem dX12_conflict_72 : decode cX12_conflict 72 = .ok (.iconst 4, 1) := by decide +kernel
theorem dX12_conflict_73 : decode cX12_conflict 73 = .ok (.if_icmp .ge 19, 3) := by decide +kernel
theorem dX12_conflict_76 : decode cX12_conflict 76 = .ok (.iload_n 1, 1) := by decide +kernel
theorem dX12_conflict_77 : decode cX12_conflict 77 = .ok (.ifCond .ne 15, 3) := by decide +kernel
theorem dX12_conflict_80 : decode cX12_conflict 80 = .ok (.aload_n 0, 1) := by decide +kernel
theorem dX12_conflict_81 : decode cX12_conflict 81 = .ok (.iload_n 2, 1) := by decide +kernel
theorem dX12_conflict_82 : decode cX12_conflict 82 = .ok (.invokevirtual 295, 3) := by decide +kernel
theorem dX12_conflict_85 : decode cX12_conflict 85 = .ok (.istore_n 1, 1) := by decide +kernel
theorem dX12_conflict_86 : decode cX12_conflict 86 = .ok (.iinc 2 1, 3) := by decide +kernel
theorem dX12_conflict_89 : decode cX12_conflict 89 = .ok (.goto (-18), 3) := by decide +kernel
theorem dX12_conflict_92 : decode cX12_conflict 92 = .ok (.iload_n 1, 1) := by decide +kernel
theorem dX12_conflict_93 : decode cX12_conflict 93 = .ok (.ifCond .ne 7, 3) := by decide +kernel
theorem dX12_conflict_96 : decode cX12_conflict 96 = .ok (.iconst (-1), 1) := by decide +kernel
theorem dX12_conflict_97 : decode cX12_conflict 97 = .ok (.goto 4, 3) := by decide +kernel
theorem dX12_conflict_100 : decode cX12_conflict 100 = .ok (.iload_n 1, 1) := by decide +kernel
theorem dX12_conflict_101 : decode cX12_conflict 101 = .ok (.ireturn, 1) := by decide +kernel
theorem dX12_policy_0 : decode cX12_policy 0 = .ok (.aload_n 0, 1) := by decide +kernel
theorem dX12_policy_1 : decode cX12_policy 1 = .ok (.iload_n 1, 1) := by decide +kernel
theorem dX12_policy_2 : decode cX12_policy 2 = .ok (.invokestatic 173, 3) := by decide +kernel
theorem dX12_policy_5 : decode cX12_policy 5 = .ok (.ifCond .ne 7, 3) := by decide +kernel
theorem dX12_policy_8 : decode cX12_policy 8 = .ok (.iconst 1, 1) := by decide +kernel
theorem dX12_policy_9 : decode cX12_policy 9 = .ok (.goto 41, 3) := by decide +kernel
theorem dX12_policy_12 : decode cX12_policy 12 = .ok (.iload_n 2, 1) := by decide +kernel
theorem dX12_policy_13 : decode cX12_policy 13 = .ok (.iconst 0, 1) := by decide +kernel
theorem dX12_policy_14 : decode cX12_policy 14 = .ok (.bipush 63, 2) := by decide +kernel
theorem dX12_policy_16 : decode cX12_policy 16 = .ok (.invokestatic 169, 3) := by decide +kernel
theorem dX12_policy_19 : decode cX12_policy 19 = .ok (.ifCond .eq 13, 3) := by decide +kernel
theorem dX12_policy_22 : decode cX12_policy 22 = .ok (.iload_n 3, 1) := by decide +kernel
theorem dX12_policy_23 : decode cX12_policy 23 = .ok (.iload_n 2, 1) := by decide +kernel
theorem dX12_policy_24 : decode cX12_policy 24 = .ok (.bipush 63, 2) := by decide +kernel
theorem dX12_policy_26 : decode cX12_policy 26 = .ok (.invokestatic 169, 3) := by decide +kernel
theorem dX12_policy_29 : decode cX12_policy 29 = .ok (.ifCond .ne 7, 3) := by decide +kernel
theorem dX12_policy_32 : decode cX12_policy 32 = .ok (.iconst 2, 1) := by decide +kernel
theorem dX12_policy_33 : decode cX12_policy 33 = .ok (.goto 17, 3) := by decide +kernel
theorem dX12_policy_36 : decode cX12_policy 36 = .ok (.aload_n 0, 1) := by decide +kernel
theorem dX12_policy_37 : decode cX12_policy 37 = .ok (.getfield 298, 3) := by decide +kernel
theorem dX12_policy_40 : decode cX12_policy 40 = .ok (.bipush 8, 2) := by decide +kernel
theorem dX12_policy_42 : decode cX12_policy 42 = .ok (.if_icmp .ne 7, 3) := by decide +kernel
theorem dX12_policy_45 : decode cX12_policy 45 = .ok (.iconst 3, 1) := by decide +kernel
theorem dX12_policy_46 : decode cX12_policy 46 = .ok (.goto 4, 3) := by decide +kernel
theorem dX12_policy_49 : decode cX12_policy 49 = .ok (.iconst 0, 1) := by decide +kernel
theorem dX12_policy_50 : decode cX12_policy 50 = .ok (.putfield 166, 3) := by decide +kernel
theorem dX12_policy_53 : decode cX12_policy 53 = .ok (.aload_n 0, 1) := by decide +kernel
theorem dX12_policy_54 : decode cX12_policy 54 = .ok (.getfield 166, 3) := by decide +kernel
theorem dX12_policy_57 : decode cX12_policy 57 = .ok (.ifCond .le 5, 3) := by decide +kernel
theorem dX12_policy_60 : decode cX12_policy 60 = .ok (.iconst 0, 1) := by decide +kernel
theorem dX12_policy_61 : decode cX12_policy 61 = .ok (.ireturn, 1) := by decide +kernel
theorem dX12_policy_62 : decode cX12_policy 62 = .ok (.aload_n 0, 1) := by decide +kernel
theorem dX12_policy_63 : decode cX12_policy 63 = .ok (.getfield 47, 3) := by decide +kernel
theorem dX12_policy_66 : decode cX12_policy 66 = .ok (.iconst 3, 1) := by decide +kernel
theorem dX12_policy_67 : decode cX12_policy 67 = .ok (.aload_n 0, 1) := by decide +kernel
theorem dX12_policy_68 : decode cX12_policy 68 = .ok (.getfield 298, 3) := by decide +kernel
theorem dX12_policy_71 : decode cX12_policy 71 = .ok (.imul, 1) := by decide +kernel
theorem dX12_policy_72 : decode cX12_policy 72 = .ok (.iload_n 1, 1) := by decide +kernel
theorem dX12_policy_73 : decode cX12_policy 73 = .ok (.iastore, 1) := by decide +kernel
theorem dX12_policy_74 : decode cX12_policy 74 = .ok (.aload_n 0, 1) := by decide +kernel
theorem dX12_policy_75 : decode cX12_policy 75 = .ok (.getfield 47, 3) := by decide +kernel
theorem dX12_policy_78 : decode cX12_policy 78 = .ok (.iconst 3, 1) := by decide +kernel
theorem dX12_policy_79 : decode cX12_policy 79 = .ok (.aload_n 0, 1) := by decide +kernel
theorem dX12_policy_80 : decode cX12_policy 80 = .ok (.getfield 298, 3) := by decide +kernel
theorem dX12_policy_83 : decode cX12_policy 83 = .ok (.imul, 1) := by decide +kernel
theorem dX12_policy_84 : decode cX12_policy 84 = .ok (.iconst 1, 1) := by decide +kernel
theorem dX12_policy_85 : decode cX12_policy 85 = .ok (.iadd, 1) := by decide +kernel
theorem dX12_policy_86 : decode cX12_policy 86 = .ok (.iload_n 2, 1) := by decide +kernel
theorem dX12_policy_87 : decode cX12_policy 87 = .ok (.iastore, 1) := by decide +kernel
theorem dX12_policy_88 : decode cX12_policy 88 = .ok (.aload_n 0, 1) := by decide +kernel
theorem dX12_policy_89 : decode cX12_policy 89 = .ok (.getfield 47, 3) := by decide +kernel
theorem dX12_policy_92 : decode cX12_policy 92 = .ok (.iconst 3, 1) := by decide +kernel
theorem dX12_policy_93 : decode cX12_policy 93 = .ok (.aload_n 0, 1) := by decide +kernel
theorem dX12_policy_94 : decode cX12_policy 94 = .ok (.getfield 298, 3) := by decide +kernel
theorem dX12_policy_97 : decode cX12_policy 97 = .ok (.imul, 1) := by decide +kernel
theorem dX12_policy_98 : decode cX12_policy 98 = .ok (.iconst 2, 1) := by decide +kernel
theorem dX12_policy_99 : decode cX12_policy 99 = .ok (.iadd, 1) := by decide +kernel
theorem dX12_policy_100 : decode cX12_policy 100 = .ok (.iload_n 3, 1) := by decide +kernel
theorem dX12_policy_101 : decode cX12_policy 101 = .ok (.iastore, 1) := by decide +kernel
theorem dX12_policy_102 : decode cX12_policy 102 = .ok (.aload_n 0, 1) := by decide +kernel
theorem dX12_policy_103 : decode cX12_policy 103 = .ok (.dup, 1) := by decide +kernel
theorem dX12_policy_104 : decode cX12_policy 104 = .ok (.getfield 298, 3) := by decide +kernel
theorem dX12_policy_107 : decode cX12_policy 107 = .ok (.iconst 1, 1) := by decide +kernel
theorem dX12_policy_108 : decode cX12_policy 108 = .ok (.iadd, 1) := by decide +kernel
theorem dX12_policy_109 : decode cX12_policy 109 = .ok (.putfield 298, 3) := by decide +kernel
theorem dX12_policy_112 : decode cX12_policy 112 = .ok (.aload_n 0, 1) := by decide +kernel
theorem dX12_policy_113 : decode cX12_policy 113 = .ok (.getfield 298, 3) := by decide +kernel
theorem dX12_policy_116 : decode cX12_policy 116 = .ok (.iconst 1, 1) := by decide +kernel
theorem dX12_policy_117 : decode cX12_policy 117 = .ok (.isub, 1) := by decide +kernel
theorem dX12_policy_118 : decode cX12_policy 118 = .ok (.ireturn, 1) := by decide +kernel
theorem dX12_proof_0 : decode cX12_proof 0 = .ok (.aload_n 0, 1) := by decide +kernel
theorem dX12_proof_1 : decode cX12_proof 1 = .ok (.iload_n 1, 1) := by decide +kernel
theorem dX12_proof_2 : decode cX12_proof 2 = .ok (.iconst 0, 1) := by decide +kernel
theorem dX12_proof_3 : decode cX12_proof 3 = .ok (.aload_n 0, 1) := by decide +kernel
theorem dX12_proof_4 : decode cX12_proof 4 = .ok (.getfield 298, 3) := by decide +kernel
theorem dX12_proof_7 : decode cX12_proof 7 = .ok (.iconst 1, 1) := by decide +kernel
theorem dX12_proof_8 : decode cX12_proof 8 = .ok (.isub, 1) := by decide +kernel
theorem dX12_proof_9 : decode cX12_proof 9 = .ok (.invokestatic 169, 3) := by decide +kernel
theorem dX12_proof_12 : decode cX12_proof 12 = .ok (.ifCond .eq 7, 3) := by decide +kernel
theorem dX12_proof_15 : decode cX12_proof 15 = .ok (.iconst 0, 1) := by decide +kernel
theorem dX12_proof_16 : decode cX12_proof 16 = .ok (.goto 4, 3) := by decide +kernel
theorem dX12_proof_19 : decode cX12_proof 19 = .ok (.iconst 1, 1) := by decide +kernel
theorem dX12_proof_20 : decode cX12_proof 20 = .ok (.putfield 166, 3) := by decide +kernel
theorem dX12_proof_23 : decode cX12_proof 23 = .ok (.aload_n 0, 1) := by decide +kernel
theorem dX12_proof_24 : decode cX12_proof 24 = .ok (.getfield 166, 3) := by decide +kernel
theorem dX12_proof_27 : decode cX12_proof 27 = .ok (.ifCond .le 5, 3) := by decide +kernel
theorem dX12_proof_30 : decode cX12_proof 30 = .ok (.iconst 0, 1) := by decide +kernel
theorem dX12_proof_31 : decode cX12_proof 31 = .ok (.ireturn, 1) := by decide +kernel
theorem dX12_proof_32 : decode cX12_proof 32 = .ok (.aload_n 0, 1) := by decide +kernel
theorem dX12_proof_33 : decode cX12_proof 33 = .ok (.invokevirtual 276, 3) := by decide +kernel
theorem dX12_proof_36 : decode cX12_proof 36 = .ok (.aload_n 0, 1) := by decide +kernel
theorem dX12_proof_37 : decode cX12_proof 37 = .ok (.getfield 151, 3) := by decide +kernel
theorem dX12_proof_40 : decode cX12_proof 40 = .ok (.aload_n 0, 1) := by decide +kernel
theorem dX12_proof_41 : decode cX12_proof 41 = .ok (.getfield 47, 3) := by decide +kernel
theorem dX12_proof_44 : decode cX12_proof 44 = .ok (.iconst 3, 1) := by decide +kernel
theorem dX12_proof_45 : decode cX12_proof 45 = .ok (.iload_n 1, 1) := by decide +kernel
theorem dX12_proof_46 : decode cX12_proof 46 = .ok (.imul, 1) := by decide +kernel
theorem dX12_proof_47 : decode cX12_proof 47 = .ok (.iaload, 1) := by decide +kernel
theorem dX12_proof_48 : decode cX12_proof 48 = .ok (.laload, 1) := by decide +kernel
theorem dX12_proof_49 : decode cX12_proof 49 = .ok (.lstore_n 2, 1) := by decide +kernel
theorem dX12_proof_50 : decode cX12_proof 50 = .ok (.lload_n 2, 1) := by decide +kernel
theorem dX12_proof_51 : decode cX12_proof 51 = .ok (.lconst 0, 1) := by decide +kernel
theorem dX12_proof_52 : decode cX12_proof 52 = .ok (.lcmp, 1) := by decide +kernel
theorem dX12_proof_53 : decode cX12_proof 53 = .ok (.ifCond .ne 6, 3) := by decide +kernel
theorem dX12_proof_56 : decode cX12_proof 56 = .ok (.bipush (-2), 2) := by decide +kernel
theorem dX12_proof_58 : decode cX12_proof 58 = .ok (.ireturn, 1) := by decide +kernel
theorem dX12_proof_59 : decode cX12_proof 59 = .ok (.lload_n 2, 1) := by decide +kernel
theorem dX12_proof_60 : decode cX12_proof 60 = .ok (.aload_n 0, 1) := by decide +kernel
theorem dX12_proof_61 : decode cX12_proof 61 = .ok (.getfield 47, 3) := by decide +kernel
theorem dX12_proof_64 : decode cX12_proof 64 = .ok (.iconst 3, 1) := by decide +kernel
theorem dX12_proof_65 : decode cX12_proof 65 = .ok (.iload_n 1, 1) := by decide +kernel
theorem dX12_proof_66 : decode cX12_proof 66 = .ok (.imul, 1) := by decide +kernel
theorem dX12_proof_67 : decode cX12_proof 67 = .ok (.iconst 1, 1) := by decide +kernel
theorem dX12_proof_68 : decode cX12_proof 68 = .ok (.iadd, 1) := by decide +kernel
theorem dX12_proof_69 : decode cX12_proof 69 = .ok (.iaload, 1) := by decide +kernel
theorem dX12_proof_70 : decode cX12_proof 70 = .ok (.aload_n 0, 1) := by decide +kernel
theorem dX12_proof_71 : decode cX12_proof 71 = .ok (.getfield 47, 3) := by decide +kernel
theorem dX12_proof_74 : decode cX12_proof 74 = .ok (.iconst 3, 1) := by decide +kernel
theorem dX12_proof_75 : decode cX12_proof 75 = .ok (.iload_n 1, 1) := by decide +kernel
theorem dX12_proof_76 : decode cX12_proof 76 = .ok (.imul, 1) := by decide +kernel
theorem dX12_proof_77 : decode cX12_proof 77 = .ok (.iconst 2, 1) := by decide +kernel
theorem dX12_proof_78 : decode cX12_proof 78 = .ok (.iadd, 1) := by decide +kernel
theorem dX12_proof_79 : decode cX12_proof 79 = .ok (.iaload, 1) := by decide +kernel
theorem dX12_proof_80 : decode cX12_proof 80 = .ok (.invokestatic 235, 3) := by decide +kernel
theorem dX12_proof_83 : decode cX12_proof 83 = .ok (.ldc2_w 222, 3) := by decide +kernel
theorem dX12_proof_86 : decode cX12_proof 86 = .ok (.lxor, 1) := by decide +kernel
theorem dX12_proof_87 : decode cX12_proof 87 = .ok (.land, 1) := by decide +kernel
theorem dX12_proof_88 : decode cX12_proof 88 = .ok (.lstore 4, 2) := by decide +kernel
theorem dX12_proof_90 : decode cX12_proof 90 = .ok (.lload 4, 2) := by decide +kernel
theorem dX12_proof_92 : decode cX12_proof 92 = .ok (.lconst 0, 1) := by decide +kernel
theorem dX12_proof_93 : decode cX12_proof 93 = .ok (.lcmp, 1) := by decide +kernel
theorem dX12_proof_94 : decode cX12_proof 94 = .ok (.ifCond .ne 7, 3) := by decide +kernel
theorem dX12_proof_97 : decode cX12_proof 97 = .ok (.iconst (-1), 1) := by decide +kernel
theorem dX12_proof_98 : decode cX12_proof 98 = .ok (.goto 8, 3) := by decide +kernel
theorem dX12_proof_101 : decode cX12_proof 101 = .ok (.lload 4, 2) := by decide +kernel
theorem dX12_proof_103 : decode cX12_proof 103 = .ok (.invokestatic 247, 3) := by decide +kernel
theorem dX12_proof_106 : decode cX12_proof 106 = .ok (.ireturn, 1) := by decide +kernel
theorem dX12_taints_0 : decode cX12_taints 0 = .ok (.iconst 0, 1) := by decide +kernel
theorem dX12_taints_1 : decode cX12_taints 1 = .ok (.istore_n 1, 1) := by decide +kernel
theorem dX12_taints_2 : decode cX12_taints 2 = .ok (.iconst (-1), 1) := by decide +kernel
theorem dX12_taints_3 : decode cX12_taints 3 = .ok (.istore_n 2, 1) := by decide +kernel
theorem dX12_taints_4 : decode cX12_taints 4 = .ok (.iload_n 2, 1) := by decide +kernel
theorem dX12_taints_5 : decode cX12_taints 5 = .ok (.iload_n 1, 1) := by decide +kernel
theorem dX12_taints_6 : decode cX12_taints 6 = .ok (.if_icmp .eq 93, 3) := by decide +kernel
theorem dX12_taints_9 : decode cX12_taints 9 = .ok (.iload_n 1, 1) := by decide +kernel
theorem dX12_taints_10 : decode cX12_taints 10 = .ok (.istore_n 2, 1) := by decide +kernel
theorem dX12_taints_11 : decode cX12_taints 11 = .ok (.iconst 0, 1) := by decide +kernel
theorem dX12_taints_12 : decode cX12_taints 12 = .ok (.istore_n 3, 1) := by decide +kernel
theorem dX12_taints_13 : decode cX12_taints 13 = .ok (.iload_n 3, 1) := by decide +kernel
theorem dX12_taints_14 : decode cX12_taints 14 = .ok (.aload_n 0, 1) := by decide +kernel
theorem dX12_taints_15 : decode cX12_taints 15 = .ok (.getfield 183, 3) := by decide +kernel
theorem dX12_taints_18 : decode cX12_taints 18 = .ok (.if_icmp .ge 78, 3) := by decide +kernel
theorem dX12_taints_21 : decode cX12_taints 21 = .ok (.aload_n 0, 1) := by decide +kernel
theorem dX12_taints_22 : decode cX12_taints 22 = .ok (.getfield 135, 3) := by decide +kernel
theorem dX12_taints_25 : decode cX12_taints 25 = .ok (.iload_n 3, 1) := by decide +kernel
theorem dX12_taints_26 : decode cX12_taints 26 = .ok (.baload, 1) := by decide +kernel
theorem dX12_taints_27 : decode cX12_taints 27 = .ok (.ifCond .eq 25, 3) := by decide +kernel
theorem dX12_taints_30 : decode cX12_taints 30 = .ok (.aload_n 0, 1) := by decide +kernel
theorem dX12_taints_31 : decode cX12_taints 31 = .ok (.getfield 7, 3) := by decide +kernel
theorem dX12_taints_34 : decode cX12_taints 34 = .ok (.iload_n 3, 1) := by decide +kernel
theorem dX12_taints_35 : decode cX12_taints 35 = .ok (.iaload, 1) := by decide +kernel
theorem dX12_taints_36 : decode cX12_taints 36 = .ok (.bipush 11, 2) := by decide +kernel
theorem dX12_taints_38 : decode cX12_taints 38 = .ok (.if_icmp .ne 14, 3) := by decide +kernel
theorem dX12_taints_41 : decode cX12_taints 41 = .ok (.iload_n 1, 1) := by decide +kernel
theorem dX12_taints_42 : decode cX12_taints 42 = .ok (.iconst 1, 1) := by decide +kernel
theorem dX12_taints_43 : decode cX12_taints 43 = .ok (.aload_n 0, 1) := by decide +kernel
theorem dX12_taints_44 : decode cX12_taints 44 = .ok (.getfield 13, 3) := by decide +kernel
theorem dX12_taints_47 : decode cX12_taints 47 = .ok (.iload_n 3, 1) := by decide +kernel
theorem dX12_taints_48 : decode cX12_taints 48 = .ok (.iaload, 1) := by decide +kernel
theorem dX12_taints_49 : decode cX12_taints 49 = .ok (.ishl, 1) := by decide +kernel
theorem dX12_taints_50 : decode cX12_taints 50 = .ok (.ior, 1) := by decide +kernel
theorem dX12_taints_51 : decode cX12_taints 51 = .ok (.istore_n 1, 1) := by decide +kernel
theorem dX12_taints_52 : decode cX12_taints 52 = .ok (.aload_n 0, 1) := by decide +kernel
theorem dX12_taints_53 : decode cX12_taints 53 = .ok (.getfield 135, 3) := by decide +kernel
theorem dX12_taints_56 : decode cX12_taints 56 = .ok (.iload_n 3, 1) := by decide +kernel
theorem dX12_taints_57 : decode cX12_taints 57 = .ok (.baload, 1) := by decide +kernel
theorem dX12_taints_58 : decode cX12_taints 58 = .ok (.ifCond .eq 32, 3) := by decide +kernel
theorem dX12_taints_61 : decode cX12_taints 61 = .ok (.aload_n 0, 1) := by decide +kernel
theorem dX12_taints_62 : decode cX12_taints 62 = .ok (.getfield 7, 3) := by decide +kernel
theorem dX12_taints_65 : decode cX12_taints 65 = .ok (.iload_n 3, 1) := by decide +kernel
theorem dX12_taints_66 : decode cX12_taints 66 = .ok (.iaload, 1) := by decide +kernel
theorem dX12_taints_67 : decode cX12_taints 67 = .ok (.bipush 7, 2) := by decide +kernel
theorem dX12_taints_69 : decode cX12_taints 69 = .ok (.if_icmp .ge 21, 3) := by decide +kernel
theorem dX12_taints_72 : decode cX12_taints 72 = .ok (.aload_n 0, 1) := by decide +kernel
theorem dX12_taints_73 : decode cX12_taints 73 = .ok (.getfield 141, 3) := by decide +kernel
theorem dX12_taints_76 : decode cX12_taints 76 = .ok (.iload_n 3, 1) := by decide +kernel
theorem dX12_taints_77 : decode cX12_taints 77 = .ok (.iaload, 1) := by decide +kernel
theorem dX12_taints_78 : decode cX12_taints 78 = .ok (.ifCond .ne 12, 3) := by decide +kernel
theorem dX12_taints_81 : decode cX12_taints 81 = .ok (.iload_n 1, 1) := by decide +kernel
theorem dX12_taints_82 : decode cX12_taints 82 = .ok (.aload_n 0, 1) := by decide +kernel
theorem dX12_taints_83 : decode cX12_taints 83 = .ok (.iload_n 3, 1) := by decide +kernel
theorem dX12_taints_84 : decode cX12_taints 84 = .ok (.iload_n 1, 1) := by decide +kernel
theorem dX12_taints_85 : decode cX12_taints 85 = .ok (.invokevirtual 301, 3) := by decide +kernel
theorem dX12_taints_88 : decode cX12_taints 88 = .ok (.ior, 1) := by decide +kernel
theorem dX12_taints_89 : decode cX12_taints 89 = .ok (.istore_n 1, 1) := by decide +kernel
theorem dX12_taints_90 : decode cX12_taints 90 = .ok (.iinc 3 1, 3) := by decide +kernel
theorem dX12_taints_93 : decode cX12_taints 93 = .ok (.goto (-80), 3) := by decide +kernel
theorem dX12_taints_96 : decode cX12_taints 96 = .ok (.goto (-92), 3) := by decide +kernel
theorem dX12_taints_99 : decode cX12_taints 99 = .ok (.iload_n 1, 1) := by decide +kernel
theorem dX12_taints_100 : decode cX12_taints 100 = .ok (.ireturn, 1) := by decide +kernel
theorem dX12_taintsBy_0 : decode cX12_taintsBy 0 = .ok (.iconst 1, 1) := by decide +kernel
theorem dX12_taintsBy_1 : decode cX12_taintsBy 1 = .ok (.aload_n 0, 1) := by decide +kernel
theorem dX12_taintsBy_2 : decode cX12_taintsBy 2 = .ok (.getfield 13, 3) := by decide +kernel
theorem dX12_taintsBy_5 : decode cX12_taintsBy 5 = .ok (.iload_n 1, 1) := by decide +kernel
theorem dX12_taintsBy_6 : decode cX12_taintsBy 6 = .ok (.iaload, 1) := by decide +kernel
theorem dX12_taintsBy_7 : decode cX12_taintsBy 7 = .ok (.ishl, 1) := by decide +kernel
theorem dX12_taintsBy_8 : decode cX12_taintsBy 8 = .ok (.aload_n 0, 1) := by decide +kernel
theorem dX12_taintsBy_9 : decode cX12_taintsBy 9 = .ok (.getfield 7, 3) := by decide +kernel
theorem dX12_taintsBy_12 : decode cX12_taintsBy 12 = .ok (.iload_n 1, 1) := by decide +kernel
theorem dX12_taintsBy_13 : decode cX12_taintsBy 13 = .ok (.iaload, 1) := by decide +kernel
theorem dX12_taintsBy_14 : decode cX12_taintsBy 14 = .ok (.invokestatic 177, 3) := by decide +kernel
theorem dX12_taintsBy_17 : decode cX12_taintsBy 17 = .ok (.ifCond .eq 14, 3) := by decide +kernel
theorem dX12_taintsBy_20 : decode cX12_taintsBy 20 = .ok (.iconst 1, 1) := by decide +kernel
theorem dX12_taintsBy_21 : decode cX12_taintsBy 21 = .ok (.aload_n 0, 1) := by decide +kernel
theorem dX12_taintsBy_22 : decode cX12_taintsBy 22 = .ok (.getfield 16, 3) := by decide +kernel
theorem dX12_taintsBy_25 : decode cX12_taintsBy 25 = .ok (.iload_n 1, 1) := by decide +kernel
theorem dX12_taintsBy_26 : decode cX12_taintsBy 26 = .ok (.iaload, 1) := by decide +kernel
theorem dX12_taintsBy_27 : decode cX12_taintsBy 27 = .ok (.ishl, 1) := by decide +kernel
theorem dX12_taintsBy_28 : decode cX12_taintsBy 28 = .ok (.goto 4, 3) := by decide +kernel
theorem dX12_taintsBy_31 : decode cX12_taintsBy 31 = .ok (.iconst 0, 1) := by decide +kernel
theorem dX12_taintsBy_32 : decode cX12_taintsBy 32 = .ok (.ior, 1) := by decide +kernel
theorem dX12_taintsBy_33 : decode cX12_taintsBy 33 = .ok (.istore_n 3, 1) := by decide +kernel
theorem dX12_taintsBy_34 : decode cX12_taintsBy 34 = .ok (.aload_n 0, 1) := by decide +kernel
theorem dX12_taintsBy_35 : decode cX12_taintsBy 35 = .ok (.getfield 138, 3) := by decide +kernel
theorem dX12_taintsBy_38 : decode cX12_taintsBy 38 = .ok (.iload_n 1, 1) := by decide +kernel
theorem dX12_taintsBy_39 : decode cX12_taintsBy 39 = .ok (.iaload, 1) := by decide +kernel
theorem dX12_taintsBy_40 : decode cX12_taintsBy 40 = .ok (.ifCond .lt 26, 3) := by decide +kernel
theorem dX12_taintsBy_43 : decode cX12_taintsBy 43 = .ok (.iload_n 2, 1) := by decide +kernel
theorem dX12_taintsBy_44 : decode cX12_taintsBy 44 = .ok (.aload_n 0, 1) := by decide +kernel
theorem dX12_taintsBy_45 : decode cX12_taintsBy 45 = .ok (.getfield 13, 3) := by decide +kernel
theorem dX12_taintsBy_48 : decode cX12_taintsBy 48 = .ok (.aload_n 0, 1) := by decide +kernel
theorem dX12_taintsBy_49 : decode cX12_taintsBy 49 = .ok (.getfield 138, 3) := by decide +kernel
theorem dX12_taintsBy_52 : decode cX12_taintsBy 52 = .ok (.iload_n 1, 1) := by decide +kernel
theorem dX12_taintsBy_53 : decode cX12_taintsBy 53 = .ok (.iaload, 1) := by decide +kernel
theorem dX12_taintsBy_54 : decode cX12_taintsBy 54 = .ok (.iaload, 1) := by decide +kernel
theorem dX12_taintsBy_55 : decode cX12_taintsBy 55 = .ok (.ishr, 1) := by decide +kernel
theorem dX12_taintsBy_56 : decode cX12_taintsBy 56 = .ok (.iconst 1, 1) := by decide +kernel
theorem dX12_taintsBy_57 : decode cX12_taintsBy 57 = .ok (.iand, 1) := by decide +kernel
theorem dX12_taintsBy_58 : decode cX12_taintsBy 58 = .ok (.iconst 1, 1) := by decide +kernel
theorem dX12_taintsBy_59 : decode cX12_taintsBy 59 = .ok (.if_icmp .ne 7, 3) := by decide +kernel
theorem dX12_taintsBy_62 : decode cX12_taintsBy 62 = .ok (.iconst 1, 1) := by decide +kernel
theorem dX12_taintsBy_63 : decode cX12_taintsBy 63 = .ok (.goto 4, 3) := by decide +kernel
theorem dX12_taintsBy_66 : decode cX12_taintsBy 66 = .ok (.iconst 0, 1) := by decide +kernel
theorem dX12_taintsBy_67 : decode cX12_taintsBy 67 = .ok (.istore 4, 2) := by decide +kernel
theorem dX12_taintsBy_69 : decode cX12_taintsBy 69 = .ok (.aload_n 0, 1) := by decide +kernel
theorem dX12_taintsBy_70 : decode cX12_taintsBy 70 = .ok (.getfield 7, 3) := by decide +kernel
theorem dX12_taintsBy_73 : decode cX12_taintsBy 73 = .ok (.iload_n 1, 1) := by decide +kernel
theorem dX12_taintsBy_74 : decode cX12_taintsBy 74 = .ok (.iaload, 1) := by decide +kernel
theorem dX12_taintsBy_75 : decode cX12_taintsBy 75 = .ok (.invokestatic 177, 3) := by decide +kernel
theorem dX12_taintsBy_78 : decode cX12_taintsBy 78 = .ok (.ifCond .eq 21, 3) := by decide +kernel
theorem dX12_taintsBy_81 : decode cX12_taintsBy 81 = .ok (.iload_n 2, 1) := by decide +kernel
theorem dX12_taintsBy_82 : decode cX12_taintsBy 82 = .ok (.iload_n 3, 1) := by decide +kernel
theorem dX12_taintsBy_83 : decode cX12_taintsBy 83 = .ok (.iand, 1) := by decide +kernel
theorem dX12_taintsBy_84 : decode cX12_taintsBy 84 = .ok (.ifCond .eq 15, 3) := by decide +kernel
theorem dX12_taintsBy_87 : decode cX12_taintsBy 87 = .ok (.aload_n 0, 1) := by decide +kernel
theorem dX12_taintsBy_88 : decode cX12_taintsBy 88 = .ok (.iload_n 1, 1) := by decide +kernel
theorem dX12_taintsBy_89 : decode cX12_taintsBy 89 = .ok (.invokevirtual 305, 3) := by decide +kernel
theorem dX12_taintsBy_92 : decode cX12_taintsBy 92 = .ok (.ifCond .eq 7, 3) := by decide +kernel
theorem dX12_taintsBy_95 : decode cX12_taintsBy 95 = .ok (.iconst 1, 1) := by decide +kernel
theorem dX12_taintsBy_96 : decode cX12_taintsBy 96 = .ok (.goto 4, 3) := by decide +kernel
theorem dX12_taintsBy_99 : decode cX12_taintsBy 99 = .ok (.iconst 0, 1) := by decide +kernel
theorem dX12_taintsBy_100 : decode cX12_taintsBy 100 = .ok (.istore 5, 2) := by decide +kernel
theorem dX12_taintsBy_102 : decode cX12_taintsBy 102 = .ok (.iload 4, 2) := by decide +kernel
theorem dX12_taintsBy_104 : decode cX12_taintsBy 104 = .ok (.ifCond .ne 8, 3) := by decide +kernel
theorem dX12_taintsBy_107 : decode cX12_taintsBy 107 = .ok (.iload 5, 2) := by decide +kernel
theorem dX12_taintsBy_109 : decode cX12_taintsBy 109 = .ok (.ifCond .eq 7, 3) := by decide +kernel
theorem dX12_taintsBy_112 : decode cX12_taintsBy 112 = .ok (.iload_n 3, 1) := by decide +kernel
theorem dX12_taintsBy_113 : decode cX12_taintsBy 113 = .ok (.goto 4, 3) := by decide +kernel
theorem dX12_taintsBy_116 : decode cX12_taintsBy 116 = .ok (.iconst 0, 1) := by decide +kernel
theorem dX12_taintsBy_117 : decode cX12_taintsBy 117 = .ok (.ireturn, 1) := by decide +kernel
theorem dX12_isOpen_0 : decode cX12_isOpen 0 = .ok (.aload_n 0, 1) := by decide +kernel
theorem dX12_isOpen_1 : decode cX12_isOpen 1 = .ok (.getfield 138, 3) := by decide +kernel
theorem dX12_isOpen_4 : decode cX12_isOpen 4 = .ok (.iload_n 1, 1) := by decide +kernel
theorem dX12_isOpen_5 : decode cX12_isOpen 5 = .ok (.iaload, 1) := by decide +kernel
theorem dX12_isOpen_6 : decode cX12_isOpen 6 = .ok (.ifCond .lt 42, 3) := by decide +kernel
theorem dX12_isOpen_9 : decode cX12_isOpen 9 = .ok (.aload_n 0, 1) := by decide +kernel
theorem dX12_isOpen_10 : decode cX12_isOpen 10 = .ok (.getfield 151, 3) := by decide +kernel
theorem dX12_isOpen_13 : decode cX12_isOpen 13 = .ok (.aload_n 0, 1) := by decide +kernel
theorem dX12_isOpen_14 : decode cX12_isOpen 14 = .ok (.getfield 13, 3) := by decide +kernel
theorem dX12_isOpen_17 : decode cX12_isOpen 17 = .ok (.aload_n 0, 1) := by decide +kernel
theorem dX12_isOpen_18 : decode cX12_isOpen 18 = .ok (.getfield 138, 3) := by decide +kernel
theorem dX12_isOpen_21 : decode cX12_isOpen 21 = .ok (.iload_n 1, 1) := by decide +kernel
theorem dX12_isOpen_22 : decode cX12_isOpen 22 = .ok (.iaload, 1) := by decide +kernel
theorem dX12_isOpen_23 : decode cX12_isOpen 23 = .ok (.iaload, 1) := by decide +kernel
theorem dX12_isOpen_24 : decode cX12_isOpen 24 = .ok (.laload, 1) := by decide +kernel
theorem dX12_isOpen_25 : decode cX12_isOpen 25 = .ok (.lconst 1, 1) := by decide +kernel
theorem dX12_isOpen_26 : decode cX12_isOpen 26 = .ok (.aload_n 0, 1) := by decide +kernel
theorem dX12_isOpen_27 : decode cX12_isOpen 27 = .ok (.getfield 16, 3) := by decide +kernel
theorem dX12_isOpen_30 : decode cX12_isOpen 30 = .ok (.aload_n 0, 1) := by decide +kernel
theorem dX12_isOpen_31 : decode cX12_isOpen 31 = .ok (.getfield 138, 3) := by decide +kernel
theorem dX12_isOpen_34 : decode cX12_isOpen 34 = .ok (.iload_n 1, 1) := by decide +kernel
theorem dX12_isOpen_35 : decode cX12_isOpen 35 = .ok (.iaload, 1) := by decide +kernel
theorem dX12_isOpen_36 : decode cX12_isOpen 36 = .ok (.iaload, 1) := by decide +kernel
theorem dX12_isOpen_37 : decode cX12_isOpen 37 = .ok (.lshl, 1) := by decide +kernel
theorem dX12_isOpen_38 : decode cX12_isOpen 38 = .ok (.ldc2_w 222, 3) := by decide +kernel
theorem dX12_isOpen_41 : decode cX12_isOpen 41 = .ok (.lxor, 1) := by decide +kernel
theorem dX12_isOpen_42 : decode cX12_isOpen 42 = .ok (.land, 1) := by decide +kernel
theorem dX12_isOpen_43 : decode cX12_isOpen 43 = .ok (.lconst 0, 1) := by decide +kernel
theorem dX12_isOpen_44 : decode cX12_isOpen 44 = .ok (.lcmp, 1) := by decide +kernel
theorem dX12_isOpen_45 : decode cX12_isOpen 45 = .ok (.ifCond .ne 7, 3) := by decide +kernel
theorem dX12_isOpen_48 : decode cX12_isOpen 48 = .ok (.iconst 1, 1) := by decide +kernel
theorem dX12_isOpen_49 : decode cX12_isOpen 49 = .ok (.goto 4, 3) := by decide +kernel
theorem dX12_isOpen_52 : decode cX12_isOpen 52 = .ok (.iconst 0, 1) := by decide +kernel
theorem dX12_isOpen_53 : decode cX12_isOpen 53 = .ok (.ireturn, 1) := by decide +kernel
theorem dX12_tainted_0 : decode cX12_tainted 0 = .ok (.aload_n 0, 1) := by decide +kernel
theorem dX12_tainted_1 : decode cX12_tainted 1 = .ok (.iconst 0, 1) := by decide +kernel
theorem dX12_tainted_2 : decode cX12_tainted 2 = .ok (.putfield 166, 3) := by decide +kernel
theorem dX12_tainted_5 : decode cX12_tainted 5 = .ok (.aload_n 0, 1) := by decide +kernel
theorem dX12_tainted_6 : decode cX12_tainted 6 = .ok (.invokevirtual 276, 3) := by decide +kernel
theorem dX12_tainted_9 : decode cX12_tainted 9 = .ok (.aload_n 0, 1) := by decide +kernel
theorem dX12_tainted_10 : decode cX12_tainted 10 = .ok (.invokevirtual 308, 3) := by decide +kernel
theorem dX12_tainted_13 : decode cX12_tainted 13 = .ok (.ireturn, 1) := by decide +kernel
theorem dX12_isType_0 : decode cX12_isType 0 = .ok (.iload_n 0, 1) := by decide +kernel
theorem dX12_isType_1 : decode cX12_isType 1 = .ok (.iconst 0, 1) := by decide +kernel
theorem dX12_isType_2 : decode cX12_isType 2 = .ok (.iconst 2, 1) := by decide +kernel
theorem dX12_isType_3 : decode cX12_isType 3 = .ok (.invokestatic 169, 3) := by decide +kernel
theorem dX12_isType_6 : decode cX12_isType 6 = .ok (.ireturn, 1) := by decide +kernel
theorem dX12_isUsed_0 : decode cX12_isUsed 0 = .ok (.iconst 0, 1) := by decide +kernel
theorem dX12_isUsed_1 : decode cX12_isUsed 1 = .ok (.istore_n 2, 1) := by decide +kernel
theorem dX12_isUsed_2 : decode cX12_isUsed 2 = .ok (.iconst 0, 1) := by decide +kernel
theorem dX12_isUsed_3 : decode cX12_isUsed 3 = .ok (.istore_n 3, 1) := by decide +kernel
theorem dX12_isUsed_4 : decode cX12_isUsed 4 = .ok (.iload_n 3, 1) := by decide +kernel
theorem dX12_isUsed_5 : decode cX12_isUsed 5 = .ok (.aload_n 0, 1) := by decide +kernel
theorem dX12_isUsed_6 : decode cX12_isUsed 6 = .ok (.getfield 312, 3) := by decide +kernel
theorem dX12_isUsed_9 : decode cX12_isUsed 9 = .ok (.if_icmp .ge 27, 3) := by decide +kernel
theorem dX12_isUsed_12 : decode cX12_isUsed 12 = .ok (.iload_n 2, 1) := by decide +kernel
theorem dX12_isUsed_13 : decode cX12_isUsed 13 = .ok (.aload_n 0, 1) := by decide +kernel
theorem dX12_isUsed_14 : decode cX12_isUsed 14 = .ok (.getfield 62, 3) := by decide +kernel
theorem dX12_isUsed_17 : decode cX12_isUsed 17 = .ok (.iload_n 3, 1) := by decide +kernel
theorem dX12_isUsed_18 : decode cX12_isUsed 18 = .ok (.iaload, 1) := by decide +kernel
theorem dX12_isUsed_19 : decode cX12_isUsed 19 = .ok (.iload_n 1, 1) := by decide +kernel
theorem dX12_isUsed_20 : decode cX12_isUsed 20 = .ok (.if_icmp .ne 7, 3) := by decide +kernel
theorem dX12_isUsed_23 : decode cX12_isUsed 23 = .ok (.iconst 1, 1) := by decide +kernel
theorem dX12_isUsed_24 : decode cX12_isUsed 24 = .ok (.goto 4, 3) := by decide +kernel
theorem dX12_isUsed_27 : decode cX12_isUsed 27 = .ok (.iconst 0, 1) := by decide +kernel
theorem dX12_isUsed_28 : decode cX12_isUsed 28 = .ok (.ior, 1) := by decide +kernel
theorem dX12_isUsed_29 : decode cX12_isUsed 29 = .ok (.istore_n 2, 1) := by decide +kernel
theorem dX12_isUsed_30 : decode cX12_isUsed 30 = .ok (.iinc 3 1, 3) := by decide +kernel
theorem dX12_isUsed_33 : decode cX12_isUsed 33 = .ok (.goto (-29), 3) := by decide +kernel
theorem dX12_isUsed_36 : decode cX12_isUsed 36 = .ok (.iconst 0, 1) := by decide +kernel
theorem dX12_isUsed_37 : decode cX12_isUsed 37 = .ok (.istore_n 3, 1) := by decide +kernel
theorem dX12_isUsed_38 : decode cX12_isUsed 38 = .ok (.iload_n 3, 1) := by decide +kernel
theorem dX12_isUsed_39 : decode cX12_isUsed 39 = .ok (.aload_n 0, 1) := by decide +kernel
theorem dX12_isUsed_40 : decode cX12_isUsed 40 = .ok (.getfield 315, 3) := by decide +kernel
theorem dX12_isUsed_43 : decode cX12_isUsed 43 = .ok (.if_icmp .ge 27, 3) := by decide +kernel
theorem dX12_isUsed_46 : decode cX12_isUsed 46 = .ok (.iload_n 2, 1) := by decide +kernel
theorem dX12_isUsed_47 : decode cX12_isUsed 47 = .ok (.aload_n 0, 1) := by decide +kernel
theorem dX12_isUsed_48 : decode cX12_isUsed 48 = .ok (.getfield 74, 3) := by decide +kernel
theorem dX12_isUsed_51 : decode cX12_isUsed 51 = .ok (.iload_n 3, 1) := by decide +kernel
theorem dX12_isUsed_52 : decode cX12_isUsed 52 = .ok (.iaload, 1) := by decide +kernel
theorem dX12_isUsed_53 : decode cX12_isUsed 53 = .ok (.iload_n 1, 1) := by decide +kernel
theorem dX12_isUsed_54 : decode cX12_isUsed 54 = .ok (.if_icmp .ne 7, 3) := by decide +kernel
theorem dX12_isUsed_57 : decode cX12_isUsed 57 = .ok (.iconst 1, 1) := by decide +kernel
theorem dX12_isUsed_58 : decode cX12_isUsed 58 = .ok (.goto 4, 3) := by decide +kernel
theorem dX12_isUsed_61 : decode cX12_isUsed 61 = .ok (.iconst 0, 1) := by decide +kernel
theorem dX12_isUsed_62 : decode cX12_isUsed 62 = .ok (.ior, 1) := by decide +kernel
theorem dX12_isUsed_63 : decode cX12_isUsed 63 = .ok (.istore_n 2, 1) := by decide +kernel
theorem dX12_isUsed_64 : decode cX12_isUsed 64 = .ok (.iinc 3 1, 3) := by decide +kernel
theorem dX12_isUsed_67 : decode cX12_isUsed 67 = .ok (.goto (-29), 3) := by decide +kernel
theorem dX12_isUsed_70 : decode cX12_isUsed 70 = .ok (.iload_n 2, 1) := by decide +kernel
theorem dX12_isUsed_71 : decode cX12_isUsed 71 = .ok (.ireturn, 1) := by decide +kernel
theorem dX12_setType_0 : decode cX12_setType 0 = .ok (.aload_n 0, 1) := by decide +kernel
theorem dX12_setType_1 : decode cX12_setType 1 = .ok (.iload_n 1, 1) := by decide +kernel
theorem dX12_setType_2 : decode cX12_setType 2 = .ok (.invokestatic 318, 3) := by decide +kernel
theorem dX12_setType_5 : decode cX12_setType 5 = .ok (.ifCond .ne 7, 3) := by decide +kernel
theorem dX12_setType_8 : decode cX12_setType 8 = .ok (.iconst 1, 1) := by decide +kernel
theorem dX12_setType_9 : decode cX12_setType 9 = .ok (.goto 51, 3) := by decide +kernel
theorem dX12_setType_12 : decode cX12_setType 12 = .ok (.iload_n 2, 1) := by decide +kernel
theorem dX12_setType_13 : decode cX12_setType 13 = .ok (.iconst 0, 1) := by decide +kernel
theorem dX12_setType_14 : decode cX12_setType 14 = .ok (.bipush 7, 2) := by decide +kernel
theorem dX12_setType_16 : decode cX12_setType 16 = .ok (.invokestatic 169, 3) := by decide +kernel
theorem dX12_setType_19 : decode cX12_setType 19 = .ok (.ifCond .eq 24, 3) := by decide +kernel
theorem dX12_setType_22 : decode cX12_setType 22 = .ok (.iload_n 3, 1) := by decide +kernel
theorem dX12_setType_23 : decode cX12_setType 23 = .ok (.iconst 0, 1) := by decide +kernel
theorem dX12_setType_24 : decode cX12_setType 24 = .ok (.bipush 7, 2) := by decide +kernel
theorem dX12_setType_26 : decode cX12_setType 26 = .ok (.invokestatic 169, 3) := by decide +kernel
theorem dX12_setType_29 : decode cX12_setType 29 = .ok (.ifCond .eq 14, 3) := by decide +kernel
theorem dX12_setType_32 : decode cX12_setType 32 = .ok (.iload 4, 2) := by decide +kernel
theorem dX12_setType_34 : decode cX12_setType 34 = .ok (.iconst 0, 1) := by decide +kernel
theorem dX12_setType_35 : decode cX12_setType 35 = .ok (.bipush 7, 2) := by decide +kernel
theorem dX12_setType_37 : decode cX12_setType 37 = .ok (.invokestatic 169, 3) := by decide +kernel
theorem dX12_setType_40 : decode cX12_setType 40 = .ok (.ifCond .ne 7, 3) := by decide +kernel
theorem dX12_setType_43 : decode cX12_setType 43 = .ok (.iconst 2, 1) := by decide +kernel
theorem dX12_setType_44 : decode cX12_setType 44 = .ok (.goto 16, 3) := by decide +kernel
theorem dX12_setType_47 : decode cX12_setType 47 = .ok (.aload_n 0, 1) := by decide +kernel
theorem dX12_setType_48 : decode cX12_setType 48 = .ok (.iload_n 1, 1) := by decide +kernel
theorem dX12_setType_49 : decode cX12_setType 49 = .ok (.invokevirtual 321, 3) := by decide +kernel
theorem dX12_setType_52 : decode cX12_setType 52 = .ok (.ifCond .eq 7, 3) := by decide +kernel
theorem dX12_setType_55 : decode cX12_setType 55 = .ok (.iconst 3, 1) := by decide +kernel
theorem dX12_setType_56 : decode cX12_setType 56 = .ok (.goto 4, 3) := by decide +kernel
theorem dX12_setType_59 : decode cX12_setType 59 = .ok (.iconst 0, 1) := by decide +kernel
theorem dX12_setType_60 : decode cX12_setType 60 = .ok (.putfield 166, 3) := by decide +kernel
theorem dX12_setType_63 : decode cX12_setType 63 = .ok (.aload_n 0, 1) := by decide +kernel
theorem dX12_setType_64 : decode cX12_setType 64 = .ok (.getfield 166, 3) := by decide +kernel
theorem dX12_setType_67 : decode cX12_setType 67 = .ok (.ifCond .ne 51, 3) := by decide +kernel
theorem dX12_setType_70 : decode cX12_setType 70 = .ok (.aload_n 0, 1) := by decide +kernel
theorem dX12_setType_71 : decode cX12_setType 71 = .ok (.getfield 50, 3) := by decide +kernel
theorem dX12_setType_74 : decode cX12_setType 74 = .ok (.iconst 3, 1) := by decide +kernel
theorem dX12_setType_75 : decode cX12_setType 75 = .ok (.iload_n 1, 1) := by decide +kernel
theorem dX12_setType_76 : decode cX12_setType 76 = .ok (.imul, 1) := by decide +kernel
theorem dX12_setType_77 : decode cX12_setType 77 = .ok (.iload_n 2, 1) := by decide +kernel
theorem dX12_setType_78 : decode cX12_setType 78 = .ok (.iastore, 1) := by decide +kernel
theorem dX12_setType_79 : decode cX12_setType 79 = .ok (.aload_n 0, 1) := by decide +kernel
theorem dX12_setType_80 : decode cX12_setType 80 = .ok (.getfield 50, 3) := by decide +kernel
theorem dX12_setType_83 : decode cX12_setType 83 = .ok (.iconst 3, 1) := by decide +kernel
theorem dX12_setType_84 : decode cX12_setType 84 = .ok (.iload_n 1, 1) := by decide +kernel
theorem dX12_setType_85 : decode cX12_setType 85 = .ok (.imul, 1) := by decide +kernel
theorem dX12_setType_86 : decode cX12_setType 86 = .ok (.iconst 1, 1) := by decide +kernel
theorem dX12_setType_87 : decode cX12_setType 87 = .ok (.iadd, 1) := by decide +kernel
theorem dX12_setType_88 : decode cX12_setType 88 = .ok (.iload_n 3, 1) := by decide +kernel
theorem dX12_setType_89 : decode cX12_setType 89 = .ok (.iastore, 1) := by decide +kernel
theorem dX12_setType_90 : decode cX12_setType 90 = .ok (.aload_n 0, 1) := by decide +kernel
theorem dX12_setType_91 : decode cX12_setType 91 = .ok (.getfield 50, 3) := by decide +kernel
theorem dX12_setType_94 : decode cX12_setType 94 = .ok (.iconst 3, 1) := by decide +kernel
theorem dX12_setType_95 : decode cX12_setType 95 = .ok (.iload_n 1, 1) := by decide +kernel
theorem dX12_setType_96 : decode cX12_setType 96 = .ok (.imul, 1) := by decide +kernel
theorem dX12_setType_97 : decode cX12_setType 97 = .ok (.iconst 2, 1) := by decide +kernel
theorem dX12_setType_98 : decode cX12_setType 98 = .ok (.iadd, 1) := by decide +kernel
theorem dX12_setType_99 : decode cX12_setType 99 = .ok (.iload 4, 2) := by decide +kernel
theorem dX12_setType_101 : decode cX12_setType 101 = .ok (.iastore, 1) := by decide +kernel
theorem dX12_setType_102 : decode cX12_setType 102 = .ok (.aload_n 0, 1) := by decide +kernel
theorem dX12_setType_103 : decode cX12_setType 103 = .ok (.getfield 53, 3) := by decide +kernel
theorem dX12_setType_106 : decode cX12_setType 106 = .ok (.iload_n 1, 1) := by decide +kernel
theorem dX12_setType_107 : decode cX12_setType 107 = .ok (.iload 5, 2) := by decide +kernel
theorem dX12_setType_109 : decode cX12_setType 109 = .ok (.bastore, 1) := by decide +kernel
theorem dX12_setType_110 : decode cX12_setType 110 = .ok (.aload_n 0, 1) := by decide +kernel
theorem dX12_setType_111 : decode cX12_setType 111 = .ok (.getfield 56, 3) := by decide +kernel
theorem dX12_setType_114 : decode cX12_setType 114 = .ok (.iload_n 1, 1) := by decide +kernel
theorem dX12_setType_115 : decode cX12_setType 115 = .ok (.iload 6, 2) := by decide +kernel
theorem dX12_setType_117 : decode cX12_setType 117 = .ok (.bastore, 1) := by decide +kernel
theorem dX12_setType_118 : decode cX12_setType 118 = .ok (.return_, 1) := by decide +kernel
theorem dX12_generator_0 : decode cX12_generator 0 = .ok (.aload_n 0, 1) := by decide +kernel
theorem dX12_generator_1 : decode cX12_generator 1 = .ok (.iload_n 1, 1) := by decide +kernel
theorem dX12_generator_2 : decode cX12_generator 2 = .ok (.invokestatic 318, 3) := by decide +kernel
theorem dX12_generator_5 : decode cX12_generator 5 = .ok (.ifCond .ne 7, 3) := by decide +kernel
theorem dX12_generator_8 : decode cX12_generator 8 = .ok (.iconst 1, 1) := by decide +kernel
theorem dX12_generator_9 : decode cX12_generator 9 = .ok (.goto 16, 3) := by decide +kernel
theorem dX12_generator_12 : decode cX12_generator 12 = .ok (.aload_n 0, 1) := by decide +kernel
theorem dX12_generator_13 : decode cX12_generator 13 = .ok (.getfield 312, 3) := by decide +kernel
theorem dX12_generator_16 : decode cX12_generator 16 = .ok (.iconst 4, 1) := by decide +kernel
theorem dX12_generator_17 : decode cX12_generator 17 = .ok (.if_icmp .ne 7, 3) := by decide +kernel
theorem dX12_generator_20 : decode cX12_generator 20 = .ok (.iconst 2, 1) := by decide +kernel
theorem dX12_generator_21 : decode cX12_generator 21 = .ok (.goto 4, 3) := by decide +kernel
theorem dX12_generator_24 : decode cX12_generator 24 = .ok (.iconst 0, 1) := by decide +kernel
theorem dX12_generator_25 : decode cX12_generator 25 = .ok (.putfield 166, 3) := by decide +kernel
theorem dX12_generator_28 : decode cX12_generator 28 = .ok (.aload_n 0, 1) := by decide +kernel
theorem dX12_generator_29 : decode cX12_generator 29 = .ok (.getfield 166, 3) := by decide +kernel
theorem dX12_generator_32 : decode cX12_generator 32 = .ok (.ifCond .le 5, 3) := by decide +kernel
theorem dX12_generator_35 : decode cX12_generator 35 = .ok (.iconst 0, 1) := by decide +kernel
theorem dX12_generator_36 : decode cX12_generator 36 = .ok (.ireturn, 1) := by decide +kernel
theorem dX12_generator_37 : decode cX12_generator 37 = .ok (.aload_n 0, 1) := by decide +kernel
theorem dX12_generator_38 : decode cX12_generator 38 = .ok (.getfield 62, 3) := by decide +kernel
theorem dX12_generator_41 : decode cX12_generator 41 = .ok (.aload_n 0, 1) := by decide +kernel
theorem dX12_generator_42 : decode cX12_generator 42 = .ok (.getfield 312, 3) := by decide +kernel
theorem dX12_generator_45 : decode cX12_generator 45 = .ok (.iload_n 1, 1) := by decide +kernel
theorem dX12_generator_46 : decode cX12_generator 46 = .ok (.iastore, 1) := by decide +kernel
theorem dX12_generator_47 : decode cX12_generator 47 = .ok (.aload_n 0, 1) := by decide +kernel
theorem dX12_generator_48 : decode cX12_generator 48 = .ok (.dup, 1) := by decide +kernel
theorem dX12_generator_49 : decode cX12_generator 49 = .ok (.getfield 312, 3) := by decide +kernel
theorem dX12_generator_52 : decode cX12_generator 52 = .ok (.iconst 1, 1) := by decide +kernel
theorem dX12_generator_53 : decode cX12_generator 53 = .ok (.iadd, 1) := by decide +kernel
theorem dX12_generator_54 : decode cX12_generator 54 = .ok (.putfield 312, 3) := by decide +kernel
theorem dX12_generator_57 : decode cX12_generator 57 = .ok (.aload_n 0, 1) := by decide +kernel
theorem dX12_generator_58 : decode cX12_generator 58 = .ok (.getfield 312, 3) := by decide +kernel
theorem dX12_generator_61 : decode cX12_generator 61 = .ok (.iconst 1, 1) := by decide +kernel
theorem dX12_generator_62 : decode cX12_generator 62 = .ok (.isub, 1) := by decide +kernel
theorem dX12_generator_63 : decode cX12_generator 63 = .ok (.ireturn, 1) := by decide +kernel
theorem dX12_isGenerator_0 : decode cX12_isGenerator 0 = .ok (.iload_n 1, 1) := by decide +kernel
theorem dX12_isGenerator_1 : decode cX12_isGenerator 1 = .ok (.iconst 0, 1) := by decide +kernel
theorem dX12_isGenerator_2 : decode cX12_isGenerator 2 = .ok (.aload_n 0, 1) := by decide +kernel
theorem dX12_isGenerator_3 : decode cX12_isGenerator 3 = .ok (.getfield 312, 3) := by decide +kernel
theorem dX12_isGenerator_6 : decode cX12_isGenerator 6 = .ok (.iconst 1, 1) := by decide +kernel
theorem dX12_isGenerator_7 : decode cX12_isGenerator 7 = .ok (.isub, 1) := by decide +kernel
theorem dX12_isGenerator_8 : decode cX12_isGenerator 8 = .ok (.invokestatic 169, 3) := by decide +kernel
theorem dX12_isGenerator_11 : decode cX12_isGenerator 11 = .ok (.ireturn, 1) := by decide +kernel
theorem dX12_hasKey_0 : decode cX12_hasKey 0 = .ok (.iconst 0, 1) := by decide +kernel
theorem dX12_hasKey_1 : decode cX12_hasKey 1 = .ok (.istore_n 3, 1) := by decide +kernel
theorem dX12_hasKey_2 : decode cX12_hasKey 2 = .ok (.iconst 0, 1) := by decide +kernel
theorem dX12_hasKey_3 : decode cX12_hasKey 3 = .ok (.istore 4, 2) := by decide +kernel
theorem dX12_hasKey_5 : decode cX12_hasKey 5 = .ok (.iload 4, 2) := by decide +kernel
theorem dX12_hasKey_7 : decode cX12_hasKey 7 = .ok (.aload_n 0, 1) := by decide +kernel
theorem dX12_hasKey_8 : decode cX12_hasKey 8 = .ok (.getfield 65, 3) := by decide +kernel
theorem dX12_hasKey_11 : decode cX12_hasKey 11 = .ok (.iload_n 1, 1) := by decide +kernel
theorem dX12_hasKey_12 : decode cX12_hasKey 12 = .ok (.iaload, 1) := by decide +kernel
theorem dX12_hasKey_13 : decode cX12_hasKey 13 = .ok (.if_icmp .ge 33, 3) := by decide +kernel
theorem dX12_hasKey_16 : decode cX12_hasKey 16 = .ok (.iload_n 3, 1) := by decide +kernel
theorem dX12_hasKey_17 : decode cX12_hasKey 17 = .ok (.aload_n 0, 1) := by decide +kernel
theorem dX12_hasKey_18 : decode cX12_hasKey 18 = .ok (.getfield 68, 3) := by decide +kernel
theorem dX12_hasKey_21 : decode cX12_hasKey 21 = .ok (.bipush 8, 2) := by decide +kernel
theorem dX12_hasKey_23 : decode cX12_hasKey 23 = .ok (.iload_n 1, 1) := by decide +kernel
theorem dX12_hasKey_24 : decode cX12_hasKey 24 = .ok (.imul, 1) := by decide +kernel
theorem dX12_hasKey_25 : decode cX12_hasKey 25 = .ok (.iload 4, 2) := by decide +kernel
theorem dX12_hasKey_27 : decode cX12_hasKey 27 = .ok (.iadd, 1) := by decide +kernel
theorem dX12_hasKey_28 : decode cX12_hasKey 28 = .ok (.iaload, 1) := by decide +kernel
theorem dX12_hasKey_29 : decode cX12_hasKey 29 = .ok (.iload_n 2, 1) := by decide +kernel
theorem dX12_hasKey_30 : decode cX12_hasKey 30 = .ok (.if_icmp .ne 7, 3) := by decide +kernel
theorem dX12_hasKey_33 : decode cX12_hasKey 33 = .ok (.iconst 1, 1) := by decide +kernel
theorem dX12_hasKey_34 : decode cX12_hasKey 34 = .ok (.goto 4, 3) := by decide +kernel
theorem dX12_hasKey_37 : decode cX12_hasKey 37 = .ok (.iconst 0, 1) := by decide +kernel
theorem dX12_hasKey_38 : decode cX12_hasKey 38 = .ok (.ior, 1) := by decide +kernel
theorem dX12_hasKey_39 : decode cX12_hasKey 39 = .ok (.istore_n 3, 1) := by decide +kernel
theorem dX12_hasKey_40 : decode cX12_hasKey 40 = .ok (.iinc 4 1, 3) := by decide +kernel
theorem dX12_hasKey_43 : decode cX12_hasKey 43 = .ok (.goto (-38), 3) := by decide +kernel
theorem dX12_hasKey_46 : decode cX12_hasKey 46 = .ok (.iload_n 3, 1) := by decide +kernel
theorem dX12_hasKey_47 : decode cX12_hasKey 47 = .ok (.ireturn, 1) := by decide +kernel
theorem dX12_key_0 : decode cX12_key 0 = .ok (.aload_n 0, 1) := by decide +kernel
theorem dX12_key_1 : decode cX12_key 1 = .ok (.aload_n 0, 1) := by decide +kernel
theorem dX12_key_2 : decode cX12_key 2 = .ok (.iload_n 1, 1) := by decide +kernel
theorem dX12_key_3 : decode cX12_key 3 = .ok (.invokevirtual 324, 3) := by decide +kernel
theorem dX12_key_6 : decode cX12_key 6 = .ok (.ifCond .eq 17, 3) := by decide +kernel
theorem dX12_key_9 : decode cX12_key 9 = .ok (.iload_n 2, 1) := by decide +kernel
theorem dX12_key_10 : decode cX12_key 10 = .ok (.iconst 0, 1) := by decide +kernel
theorem dX12_key_11 : decode cX12_key 11 = .ok (.aload_n 0, 1) := by decide +kernel
theorem dX12_key_12 : decode cX12_key 12 = .ok (.getfield 65, 3) := by decide +kernel
theorem dX12_key_15 : decode cX12_key 15 = .ok (.iload_n 1, 1) := by decide +kernel
theorem dX12_key_16 : decode cX12_key 16 = .ok (.iaload, 1) := by decide +kernel
theorem dX12_key_17 : decode cX12_key 17 = .ok (.invokestatic 169, 3) := by decide +kernel
theorem dX12_key_20 : decode cX12_key 20 = .ok (.ifCond .ne 7, 3) := by decide +kernel
theorem dX12_key_23 : decode cX12_key 23 = .ok (.iconst 1, 1) := by decide +kernel
theorem dX12_key_24 : decode cX12_key 24 = .ok (.goto 42, 3) := by decide +kernel
theorem dX12_key_27 : decode cX12_key 27 = .ok (.iload_n 3, 1) := by decide +kernel
theorem dX12_key_28 : decode cX12_key 28 = .ok (.iconst 0, 1) := by decide +kernel
theorem dX12_key_29 : decode cX12_key 29 = .ok (.bipush 15, 2) := by decide +kernel
theorem dX12_key_31 : decode cX12_key 31 = .ok (.invokestatic 169, 3) := by decide +kernel
theorem dX12_key_34 : decode cX12_key 34 = .ok (.ifCond .ne 7, 3) := by decide +kernel
theorem dX12_key_37 : decode cX12_key 37 = .ok (.iconst 2, 1) := by decide +kernel
theorem dX12_key_38 : decode cX12_key 38 = .ok (.goto 28, 3) := by decide +kernel
theorem dX12_key_41 : decode cX12_key 41 = .ok (.aload_n 0, 1) := by decide +kernel
theorem dX12_key_42 : decode cX12_key 42 = .ok (.iload_n 1, 1) := by decide +kernel
theorem dX12_key_43 : decode cX12_key 43 = .ok (.iload_n 3, 1) := by decide +kernel
theorem dX12_key_44 : decode cX12_key 44 = .ok (.invokevirtual 327, 3) := by decide +kernel
theorem dX12_key_47 : decode cX12_key 47 = .ok (.ifCond .ne 14, 3) := by decide +kernel
theorem dX12_key_50 : decode cX12_key 50 = .ok (.aload_n 0, 1) := by decide +kernel
theorem dX12_key_51 : decode cX12_key 51 = .ok (.getfield 65, 3) := by decide +kernel
theorem dX12_key_54 : decode cX12_key 54 = .ok (.iload_n 1, 1) := by decide +kernel
theorem dX12_key_55 : decode cX12_key 55 = .ok (.iaload, 1) := by decide +kernel
theorem dX12_key_56 : decode cX12_key 56 = .ok (.bipush 8, 2) := by decide +kernel
theorem dX12_key_58 : decode cX12_key 58 = .ok (.if_icmp .ne 7, 3) := by decide +kernel
theorem dX12_key_61 : decode cX12_key 61 = .ok (.iconst 3, 1) := by decide +kernel
theorem dX12_key_62 : decode cX12_key 62 = .ok (.goto 4, 3) := by decide +kernel
theorem dX12_key_65 : decode cX12_key 65 = .ok (.iconst 0, 1) := by decide +kernel
theorem dX12_key_66 : decode cX12_key 66 = .ok (.putfield 166, 3) := by decide +kernel
theorem dX12_key_69 : decode cX12_key 69 = .ok (.aload_n 0, 1) := by decide +kernel
theorem dX12_key_70 : decode cX12_key 70 = .ok (.getfield 166, 3) := by decide +kernel
theorem dX12_key_73 : decode cX12_key 73 = .ok (.ifCond .le 5, 3) := by decide +kernel
theorem dX12_key_76 : decode cX12_key 76 = .ok (.iconst 0, 1) := by decide +kernel
theorem dX12_key_77 : decode cX12_key 77 = .ok (.ireturn, 1) := by decide +kernel
theorem dX12_key_78 : decode cX12_key 78 = .ok (.iload_n 1, 1) := by decide +kernel
theorem dX12_key_79 : decode cX12_key 79 = .ok (.istore 4, 2) := by decide +kernel
theorem dX12_key_81 : decode cX12_key 81 = .ok (.aload_n 0, 1) := by decide +kernel
theorem dX12_key_82 : decode cX12_key 82 = .ok (.getfield 65, 3) := by decide +kernel
theorem dX12_key_85 : decode cX12_key 85 = .ok (.iload 4, 2) := by decide +kernel
theorem dX12_key_87 : decode cX12_key 87 = .ok (.iaload, 1) := by decide +kernel
theorem dX12_key_88 : decode cX12_key 88 = .ok (.istore 5, 2) := by decide +kernel
theorem dX12_key_90 : decode cX12_key 90 = .ok (.iload 5, 2) := by decide +kernel
theorem dX12_key_92 : decode cX12_key 92 = .ok (.iload_n 2, 1) := by decide +kernel
theorem dX12_key_93 : decode cX12_key 93 = .ok (.if_icmp .le 37, 3) := by decide +kernel
theorem dX12_key_96 : decode cX12_key 96 = .ok (.aload_n 0, 1) := by decide +kernel
theorem dX12_key_97 : decode cX12_key 97 = .ok (.getfield 68, 3) := by decide +kernel
theorem dX12_key_100 : decode cX12_key 100 = .ok (.bipush 8, 2) := by decide +kernel
theorem dX12_key_102 : decode cX12_key 102 = .ok (.iload 4, 2) := by decide +kernel
theorem dX12_key_104 : decode cX12_key 104 = .ok (.imul, 1) := by decide +kernel
theorem dX12_key_105 : decode cX12_key 105 = .ok (.iload 5, 2) := by decide +kernel
theorem dX12_key_107 : decode cX12_key 107 = .ok (.iadd, 1) := by decide +kernel
theorem dX12_key_108 : decode cX12_key 108 = .ok (.aload_n 0, 1) := by decide +kernel
theorem dX12_key_109 : decode cX12_key 109 = .ok (.getfield 68, 3) := by decide +kernel
theorem dX12_key_112 : decode cX12_key 112 = .ok (.bipush 8, 2) := by decide +kernel
theorem dX12_key_114 : decode cX12_key 114 = .ok (.iload 4, 2) := by decide +kernel
theorem dX12_key_116 : decode cX12_key 116 = .ok (.imul, 1) := by decide +kernel
theorem dX12_key_117 : decode cX12_key 117 = .ok (.iload 5, 2) := by decide +kernel
theorem dX12_key_119 : decode cX12_key 119 = .ok (.iadd, 1) := by decide +kernel
theorem dX12_key_120 : decode cX12_key 120 = .ok (.iconst 1, 1) := by decide +kernel
theorem dX12_key_121 : decode cX12_key 121 = .ok (.isub, 1) := by decide +kernel
theorem dX12_key_122 : decode cX12_key 122 = .ok (.iaload, 1) := by decide +kernel
theorem dX12_key_123 : decode cX12_key 123 = .ok (.iastore, 1) := by decide +kernel
theorem dX12_key_124 : decode cX12_key 124 = .ok (.iinc 5 (-1), 3) := by decide +kernel
theorem dX12_key_127 : decode cX12_key 127 = .ok (.goto (-37), 3) := by decide +kernel
theorem dX12_key_130 : decode cX12_key 130 = .ok (.aload_n 0, 1) := by decide +kernel
theorem dX12_key_131 : decode cX12_key 131 = .ok (.getfield 68, 3) := by decide +kernel
theorem dX12_key_134 : decode cX12_key 134 = .ok (.bipush 8, 2) := by decide +kernel
theorem dX12_key_136 : decode cX12_key 136 = .ok (.iload 4, 2) := by decide +kernel
theorem dX12_key_138 : decode cX12_key 138 = .ok (.imul, 1) := by decide +kernel
theorem dX12_key_139 : decode cX12_key 139 = .ok (.iload_n 2, 1) := by decide +kernel
theorem dX12_key_140 : decode cX12_key 140 = .ok (.iadd, 1) := by decide +kernel
theorem dX12_key_141 : decode cX12_key 141 = .ok (.iload_n 3, 1) := by decide +kernel
theorem dX12_key_142 : decode cX12_key 142 = .ok (.iastore, 1) := by decide +kernel
theorem dX12_key_143 : decode cX12_key 143 = .ok (.aload_n 0, 1) := by decide +kernel
theorem dX12_key_144 : decode cX12_key 144 = .ok (.getfield 65, 3) := by decide +kernel
theorem dX12_key_147 : decode cX12_key 147 = .ok (.iload 4, 2) := by decide +kernel
