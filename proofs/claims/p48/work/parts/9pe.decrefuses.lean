theorem dL_refuses_0 : decode cL_refuses 0 = .ok (.aload_n 0, 1) := by decide +kernel
theorem dL_refuses_1 : decode cL_refuses 1 = .ok (.invokevirtual 143, 3) := by decide +kernel
theorem dL_refuses_4 : decode cL_refuses 4 = .ok (.istore 5, 2) := by decide +kernel
theorem dL_refuses_6 : decode cL_refuses 6 = .ok (.aload_n 0, 1) := by decide +kernel
theorem dL_refuses_7 : decode cL_refuses 7 = .ok (.invokevirtual 146, 3) := by decide +kernel
theorem dL_refuses_10 : decode cL_refuses 10 = .ok (.istore 6, 2) := by decide +kernel
theorem dL_refuses_12 : decode cL_refuses 12 = .ok (.aload_n 0, 1) := by decide +kernel
theorem dL_refuses_13 : decode cL_refuses 13 = .ok (.invokevirtual 149, 3) := by decide +kernel
theorem dL_refuses_16 : decode cL_refuses 16 = .ok (.istore 7, 2) := by decide +kernel
theorem dL_refuses_18 : decode cL_refuses 18 = .ok (.aload_n 0, 1) := by decide +kernel
theorem dL_refuses_19 : decode cL_refuses 19 = .ok (.invokevirtual 152, 3) := by decide +kernel
theorem dL_refuses_22 : decode cL_refuses 22 = .ok (.istore 8, 2) := by decide +kernel
theorem dL_refuses_24 : decode cL_refuses 24 = .ok (.ldc 156, 2) := by decide +kernel
theorem dL_refuses_26 : decode cL_refuses 26 = .ok (.istore 9, 2) := by decide +kernel
theorem dL_refuses_28 : decode cL_refuses 28 = .ok (.iconst 0, 1) := by decide +kernel
theorem dL_refuses_29 : decode cL_refuses 29 = .ok (.istore 10, 2) := by decide +kernel
theorem dL_refuses_31 : decode cL_refuses 31 = .ok (.iload 10, 2) := by decide +kernel
theorem dL_refuses_33 : decode cL_refuses 33 = .ok (.iconst 4, 1) := by decide +kernel
theorem dL_refuses_34 : decode cL_refuses 34 = .ok (.if_icmp .ge 1779, 3) := by decide +kernel
theorem dL_refuses_37 : decode cL_refuses 37 = .ok (.iload 10, 2) := by decide +kernel
theorem dL_refuses_39 : decode cL_refuses 39 = .ok (.ifCond .ne 7, 3) := by decide +kernel
theorem dL_refuses_42 : decode cL_refuses 42 = .ok (.iconst (-1), 1) := by decide +kernel
theorem dL_refuses_43 : decode cL_refuses 43 = .ok (.goto 19, 3) := by decide +kernel
theorem dL_refuses_46 : decode cL_refuses 46 = .ok (.iload 10, 2) := by decide +kernel
theorem dL_refuses_48 : decode cL_refuses 48 = .ok (.iconst 2, 1) := by decide +kernel
theorem dL_refuses_49 : decode cL_refuses 49 = .ok (.if_icmp .ne 8, 3) := by decide +kernel
theorem dL_refuses_52 : decode cL_refuses 52 = .ok (.iload 9, 2) := by decide +kernel
theorem dL_refuses_54 : decode cL_refuses 54 = .ok (.goto 8, 3) := by decide +kernel
theorem dL_refuses_57 : decode cL_refuses 57 = .ok (.iload 9, 2) := by decide +kernel
theorem dL_refuses_59 : decode cL_refuses 59 = .ok (.ineg, 1) := by decide +kernel
theorem dL_refuses_60 : decode cL_refuses 60 = .ok (.iconst 1, 1) := by decide +kernel
theorem dL_refuses_61 : decode cL_refuses 61 = .ok (.isub, 1) := by decide +kernel
theorem dL_refuses_62 : decode cL_refuses 62 = .ok (.istore 11, 2) := by decide +kernel
theorem dL_refuses_64 : decode cL_refuses 64 = .ok (.iload 10, 2) := by decide +kernel
theorem dL_refuses_66 : decode cL_refuses 66 = .ok (.iconst 1, 1) := by decide +kernel
theorem dL_refuses_67 : decode cL_refuses 67 = .ok (.if_icmp .ne 7, 3) := by decide +kernel
theorem dL_refuses_70 : decode cL_refuses 70 = .ok (.iconst 3, 1) := by decide +kernel
theorem dL_refuses_71 : decode cL_refuses 71 = .ok (.goto 5, 3) := by decide +kernel
theorem dL_refuses_74 : decode cL_refuses 74 = .ok (.iload 11, 2) := by decide +kernel
theorem dL_refuses_76 : decode cL_refuses 76 = .ok (.istore 12, 2) := by decide +kernel
theorem dL_refuses_78 : decode cL_refuses 78 = .ok (.iload 10, 2) := by decide +kernel
theorem dL_refuses_80 : decode cL_refuses 80 = .ok (.iconst 1, 1) := by decide +kernel
theorem dL_refuses_81 : decode cL_refuses 81 = .ok (.if_icmp .ne 7, 3) := by decide +kernel
theorem dL_refuses_84 : decode cL_refuses 84 = .ok (.iconst 4, 1) := by decide +kernel
theorem dL_refuses_85 : decode cL_refuses 85 = .ok (.goto 5, 3) := by decide +kernel
theorem dL_refuses_88 : decode cL_refuses 88 = .ok (.iload 11, 2) := by decide +kernel
theorem dL_refuses_90 : decode cL_refuses 90 = .ok (.istore 13, 2) := by decide +kernel
theorem dL_refuses_92 : decode cL_refuses 92 = .ok (.iload 10, 2) := by decide +kernel
theorem dL_refuses_94 : decode cL_refuses 94 = .ok (.iconst 1, 1) := by decide +kernel
theorem dL_refuses_95 : decode cL_refuses 95 = .ok (.if_icmp .ne 8, 3) := by decide +kernel
theorem dL_refuses_98 : decode cL_refuses 98 = .ok (.bipush 6, 2) := by decide +kernel
theorem dL_refuses_100 : decode cL_refuses 100 = .ok (.goto 5, 3) := by decide +kernel
theorem dL_refuses_103 : decode cL_refuses 103 = .ok (.iload 11, 2) := by decide +kernel
theorem dL_refuses_105 : decode cL_refuses 105 = .ok (.istore 14, 2) := by decide +kernel
theorem dL_refuses_107 : decode cL_refuses 107 = .ok (.iload 10, 2) := by decide +kernel
theorem dL_refuses_109 : decode cL_refuses 109 = .ok (.iconst 1, 1) := by decide +kernel
theorem dL_refuses_110 : decode cL_refuses 110 = .ok (.if_icmp .ne 8, 3) := by decide +kernel
theorem dL_refuses_113 : decode cL_refuses 113 = .ok (.bipush 10, 2) := by decide +kernel
theorem dL_refuses_115 : decode cL_refuses 115 = .ok (.goto 5, 3) := by decide +kernel
theorem dL_refuses_118 : decode cL_refuses 118 = .ok (.iload 11, 2) := by decide +kernel
theorem dL_refuses_120 : decode cL_refuses 120 = .ok (.istore 15, 2) := by decide +kernel
theorem dL_refuses_122 : decode cL_refuses 122 = .ok (.iload 10, 2) := by decide +kernel
theorem dL_refuses_124 : decode cL_refuses 124 = .ok (.iconst 1, 1) := by decide +kernel
theorem dL_refuses_125 : decode cL_refuses 125 = .ok (.if_icmp .ne 8, 3) := by decide +kernel
theorem dL_refuses_128 : decode cL_refuses 128 = .ok (.bipush 64, 2) := by decide +kernel
theorem dL_refuses_130 : decode cL_refuses 130 = .ok (.goto 5, 3) := by decide +kernel
theorem dL_refuses_133 : decode cL_refuses 133 = .ok (.iload 11, 2) := by decide +kernel
theorem dL_refuses_135 : decode cL_refuses 135 = .ok (.istore 16, 2) := by decide +kernel
theorem dL_refuses_137 : decode cL_refuses 137 = .ok (.iload 10, 2) := by decide +kernel
theorem dL_refuses_139 : decode cL_refuses 139 = .ok (.iconst 1, 1) := by decide +kernel
theorem dL_refuses_140 : decode cL_refuses 140 = .ok (.if_icmp .ne 10, 3) := by decide +kernel
theorem dL_refuses_143 : decode cL_refuses 143 = .ok (.bipush 16, 2) := by decide +kernel
theorem dL_refuses_145 : decode cL_refuses 145 = .ok (.iload_n 3, 1) := by decide +kernel
theorem dL_refuses_146 : decode cL_refuses 146 = .ok (.imul, 1) := by decide +kernel
theorem dL_refuses_147 : decode cL_refuses 147 = .ok (.goto 5, 3) := by decide +kernel
theorem dL_refuses_150 : decode cL_refuses 150 = .ok (.iload 11, 2) := by decide +kernel
theorem dL_refuses_152 : decode cL_refuses 152 = .ok (.istore 17, 2) := by decide +kernel
theorem dL_refuses_154 : decode cL_refuses 154 = .ok (.iload 10, 2) := by decide +kernel
theorem dL_refuses_156 : decode cL_refuses 156 = .ok (.iconst 1, 1) := by decide +kernel
theorem dL_refuses_157 : decode cL_refuses 157 = .ok (.if_icmp .ne 7, 3) := by decide +kernel
theorem dL_refuses_160 : decode cL_refuses 160 = .ok (.iload_n 3, 1) := by decide +kernel
theorem dL_refuses_161 : decode cL_refuses 161 = .ok (.goto 5, 3) := by decide +kernel
theorem dL_refuses_164 : decode cL_refuses 164 = .ok (.iload 11, 2) := by decide +kernel
theorem dL_refuses_166 : decode cL_refuses 166 = .ok (.istore 18, 2) := by decide +kernel
theorem dL_refuses_168 : decode cL_refuses 168 = .ok (.iload 10, 2) := by decide +kernel
theorem dL_refuses_170 : decode cL_refuses 170 = .ok (.iconst 1, 1) := by decide +kernel
theorem dL_refuses_171 : decode cL_refuses 171 = .ok (.if_icmp .ne 8, 3) := by decide +kernel
theorem dL_refuses_174 : decode cL_refuses 174 = .ok (.iload 6, 2) := by decide +kernel
theorem dL_refuses_176 : decode cL_refuses 176 = .ok (.goto 5, 3) := by decide +kernel
theorem dL_refuses_179 : decode cL_refuses 179 = .ok (.iload 11, 2) := by decide +kernel
theorem dL_refuses_181 : decode cL_refuses 181 = .ok (.istore 19, 2) := by decide +kernel
theorem dL_refuses_183 : decode cL_refuses 183 = .ok (.iload 10, 2) := by decide +kernel
theorem dL_refuses_185 : decode cL_refuses 185 = .ok (.iconst 1, 1) := by decide +kernel
theorem dL_refuses_186 : decode cL_refuses 186 = .ok (.if_icmp .ne 8, 3) := by decide +kernel
theorem dL_refuses_189 : decode cL_refuses 189 = .ok (.iload 4, 2) := by decide +kernel
theorem dL_refuses_191 : decode cL_refuses 191 = .ok (.goto 5, 3) := by decide +kernel
theorem dL_refuses_194 : decode cL_refuses 194 = .ok (.iload 11, 2) := by decide +kernel
theorem dL_refuses_196 : decode cL_refuses 196 = .ok (.istore 20, 2) := by decide +kernel
theorem dL_refuses_198 : decode cL_refuses 198 = .ok (.iload 10, 2) := by decide +kernel
theorem dL_refuses_200 : decode cL_refuses 200 = .ok (.ifCond .ne 7, 3) := by decide +kernel
theorem dL_refuses_203 : decode cL_refuses 203 = .ok (.iconst 0, 1) := by decide +kernel
theorem dL_refuses_204 : decode cL_refuses 204 = .ok (.goto 16, 3) := by decide +kernel
theorem dL_refuses_207 : decode cL_refuses 207 = .ok (.iload 10, 2) := by decide +kernel
theorem dL_refuses_209 : decode cL_refuses 209 = .ok (.iconst 1, 1) := by decide +kernel
theorem dL_refuses_210 : decode cL_refuses 210 = .ok (.if_icmp .ne 8, 3) := by decide +kernel
theorem dL_refuses_213 : decode cL_refuses 213 = .ok (.bipush 31, 2) := by decide +kernel
theorem dL_refuses_215 : decode cL_refuses 215 = .ok (.goto 5, 3) := by decide +kernel
theorem dL_refuses_218 : decode cL_refuses 218 = .ok (.iload 11, 2) := by decide +kernel
theorem dL_refuses_220 : decode cL_refuses 220 = .ok (.istore 21, 2) := by decide +kernel
theorem dL_refuses_222 : decode cL_refuses 222 = .ok (.iload 10, 2) := by decide +kernel
theorem dL_refuses_224 : decode cL_refuses 224 = .ok (.ifCond .ne 8, 3) := by decide +kernel
theorem dL_refuses_227 : decode cL_refuses 227 = .ok (.bipush (-2), 2) := by decide +kernel
theorem dL_refuses_229 : decode cL_refuses 229 = .ok (.goto 15, 3) := by decide +kernel
theorem dL_refuses_232 : decode cL_refuses 232 = .ok (.iload 10, 2) := by decide +kernel
theorem dL_refuses_234 : decode cL_refuses 234 = .ok (.iconst 1, 1) := by decide +kernel
theorem dL_refuses_235 : decode cL_refuses 235 = .ok (.if_icmp .ne 7, 3) := by decide +kernel
theorem dL_refuses_238 : decode cL_refuses 238 = .ok (.iconst 4, 1) := by decide +kernel
theorem dL_refuses_239 : decode cL_refuses 239 = .ok (.goto 5, 3) := by decide +kernel
theorem dL_refuses_242 : decode cL_refuses 242 = .ok (.iload 11, 2) := by decide +kernel
theorem dL_refuses_244 : decode cL_refuses 244 = .ok (.istore 22, 2) := by decide +kernel
theorem dL_refuses_246 : decode cL_refuses 246 = .ok (.aload_n 0, 1) := by decide +kernel
theorem dL_refuses_247 : decode cL_refuses 247 = .ok (.iconst 0, 1) := by decide +kernel
theorem dL_refuses_248 : decode cL_refuses 248 = .ok (.iload 14, 2) := by decide +kernel
theorem dL_refuses_250 : decode cL_refuses 250 = .ok (.iconst 0, 1) := by decide +kernel
theorem dL_refuses_251 : decode cL_refuses 251 = .ok (.iconst 0, 1) := by decide +kernel
theorem dL_refuses_252 : decode cL_refuses 252 = .ok (.iconst 0, 1) := by decide +kernel
theorem dL_refuses_253 : decode cL_refuses 253 = .ok (.iconst 0, 1) := by decide +kernel
theorem dL_refuses_254 : decode cL_refuses 254 = .ok (.invokestatic 157, 3) := by decide +kernel
theorem dL_refuses_257 : decode cL_refuses 257 = .ok (.bipush (-71), 2) := by decide +kernel
theorem dL_refuses_259 : decode cL_refuses 259 = .ok (.if_icmp .ne 387, 3) := by decide +kernel
theorem dL_refuses_262 : decode cL_refuses 262 = .ok (.aload_n 0, 1) := by decide +kernel
theorem dL_refuses_263 : decode cL_refuses 263 = .ok (.iconst 0, 1) := by decide +kernel
theorem dL_refuses_264 : decode cL_refuses 264 = .ok (.iconst 0, 1) := by decide +kernel
theorem dL_refuses_265 : decode cL_refuses 265 = .ok (.iconst 0, 1) := by decide +kernel
theorem dL_refuses_266 : decode cL_refuses 266 = .ok (.iload 15, 2) := by decide +kernel
theorem dL_refuses_268 : decode cL_refuses 268 = .ok (.bipush (-9), 2) := by decide +kernel
theorem dL_refuses_270 : decode cL_refuses 270 = .ok (.iconst 0, 1) := by decide +kernel
theorem dL_refuses_271 : decode cL_refuses 271 = .ok (.invokestatic 157, 3) := by decide +kernel
theorem dL_refuses_274 : decode cL_refuses 274 = .ok (.bipush (-71), 2) := by decide +kernel
theorem dL_refuses_276 : decode cL_refuses 276 = .ok (.if_icmp .ne 370, 3) := by decide +kernel
theorem dL_refuses_279 : decode cL_refuses 279 = .ok (.aload_n 0, 1) := by decide +kernel
theorem dL_refuses_280 : decode cL_refuses 280 = .ok (.iconst 0, 1) := by decide +kernel
theorem dL_refuses_281 : decode cL_refuses 281 = .ok (.iconst 0, 1) := by decide +kernel
theorem dL_refuses_282 : decode cL_refuses 282 = .ok (.bipush 12, 2) := by decide +kernel
theorem dL_refuses_284 : decode cL_refuses 284 = .ok (.iload 12, 2) := by decide +kernel
theorem dL_refuses_286 : decode cL_refuses 286 = .ok (.iconst 0, 1) := by decide +kernel
theorem dL_refuses_287 : decode cL_refuses 287 = .ok (.iconst 0, 1) := by decide +kernel
theorem dL_refuses_288 : decode cL_refuses 288 = .ok (.invokestatic 157, 3) := by decide +kernel
theorem dL_refuses_291 : decode cL_refuses 291 = .ok (.bipush (-71), 2) := by decide +kernel
theorem dL_refuses_293 : decode cL_refuses 293 = .ok (.if_icmp .ne 353, 3) := by decide +kernel
theorem dL_refuses_296 : decode cL_refuses 296 = .ok (.aload_n 0, 1) := by decide +kernel
theorem dL_refuses_297 : decode cL_refuses 297 = .ok (.iconst 0, 1) := by decide +kernel
theorem dL_refuses_298 : decode cL_refuses 298 = .ok (.iconst 0, 1) := by decide +kernel
theorem dL_refuses_299 : decode cL_refuses 299 = .ok (.iconst 5, 1) := by decide +kernel
theorem dL_refuses_300 : decode cL_refuses 300 = .ok (.iconst 0, 1) := by decide +kernel
theorem dL_refuses_301 : decode cL_refuses 301 = .ok (.iload 15, 2) := by decide +kernel
theorem dL_refuses_303 : decode cL_refuses 303 = .ok (.bipush 99, 2) := by decide +kernel
theorem dL_refuses_305 : decode cL_refuses 305 = .ok (.invokestatic 157, 3) := by decide +kernel
theorem dL_refuses_308 : decode cL_refuses 308 = .ok (.bipush (-71), 2) := by decide +kernel
theorem dL_refuses_310 : decode cL_refuses 310 = .ok (.if_icmp .ne 336, 3) := by decide +kernel
theorem dL_refuses_313 : decode cL_refuses 313 = .ok (.aload_n 0, 1) := by decide +kernel
theorem dL_refuses_314 : decode cL_refuses 314 = .ok (.iconst 0, 1) := by decide +kernel
theorem dL_refuses_315 : decode cL_refuses 315 = .ok (.iconst 0, 1) := by decide +kernel
theorem dL_refuses_316 : decode cL_refuses 316 = .ok (.bipush 6, 2) := by decide +kernel
theorem dL_refuses_318 : decode cL_refuses 318 = .ok (.iconst 0, 1) := by decide +kernel
theorem dL_refuses_319 : decode cL_refuses 319 = .ok (.iload 15, 2) := by decide +kernel
theorem dL_refuses_321 : decode cL_refuses 321 = .ok (.iconst 1, 1) := by decide +kernel
theorem dL_refuses_322 : decode cL_refuses 322 = .ok (.invokestatic 157, 3) := by decide +kernel
theorem dL_refuses_325 : decode cL_refuses 325 = .ok (.bipush (-71), 2) := by decide +kernel
theorem dL_refuses_327 : decode cL_refuses 327 = .ok (.if_icmp .ne 319, 3) := by decide +kernel
theorem dL_refuses_330 : decode cL_refuses 330 = .ok (.aload_n 0, 1) := by decide +kernel
theorem dL_refuses_331 : decode cL_refuses 331 = .ok (.iconst 0, 1) := by decide +kernel
theorem dL_refuses_332 : decode cL_refuses 332 = .ok (.iconst 0, 1) := by decide +kernel
theorem dL_refuses_333 : decode cL_refuses 333 = .ok (.iload 10, 2) := by decide +kernel
theorem dL_refuses_335 : decode cL_refuses 335 = .ok (.iconst 1, 1) := by decide +kernel
theorem dL_refuses_336 : decode cL_refuses 336 = .ok (.if_icmp .ne 8, 3) := by decide +kernel
theorem dL_refuses_339 : decode cL_refuses 339 = .ok (.bipush 13, 2) := by decide +kernel
theorem dL_refuses_341 : decode cL_refuses 341 = .ok (.goto 5, 3) := by decide +kernel
theorem dL_refuses_344 : decode cL_refuses 344 = .ok (.iload 11, 2) := by decide +kernel
theorem dL_refuses_346 : decode cL_refuses 346 = .ok (.iload 15, 2) := by decide +kernel
theorem dL_refuses_348 : decode cL_refuses 348 = .ok (.iconst 0, 1) := by decide +kernel
theorem dL_refuses_349 : decode cL_refuses 349 = .ok (.iconst 0, 1) := by decide +kernel
theorem dL_refuses_350 : decode cL_refuses 350 = .ok (.invokestatic 157, 3) := by decide +kernel
theorem dL_refuses_353 : decode cL_refuses 353 = .ok (.bipush (-71), 2) := by decide +kernel
theorem dL_refuses_355 : decode cL_refuses 355 = .ok (.if_icmp .ne 291, 3) := by decide +kernel
theorem dL_refuses_358 : decode cL_refuses 358 = .ok (.aload_n 0, 1) := by decide +kernel
theorem dL_refuses_359 : decode cL_refuses 359 = .ok (.iconst 0, 1) := by decide +kernel
theorem dL_refuses_360 : decode cL_refuses 360 = .ok (.iconst 0, 1) := by decide +kernel
theorem dL_refuses_361 : decode cL_refuses 361 = .ok (.iload 10, 2) := by decide +kernel
theorem dL_refuses_363 : decode cL_refuses 363 = .ok (.iconst 1, 1) := by decide +kernel
theorem dL_refuses_364 : decode cL_refuses 364 = .ok (.if_icmp .ne 8, 3) := by decide +kernel
theorem dL_refuses_367 : decode cL_refuses 367 = .ok (.bipush 13, 2) := by decide +kernel
theorem dL_refuses_369 : decode cL_refuses 369 = .ok (.goto 5, 3) := by decide +kernel
theorem dL_refuses_372 : decode cL_refuses 372 = .ok (.iload 11, 2) := by decide +kernel
theorem dL_refuses_374 : decode cL_refuses 374 = .ok (.iconst 0, 1) := by decide +kernel
theorem dL_refuses_375 : decode cL_refuses 375 = .ok (.iconst 0, 1) := by decide +kernel
theorem dL_refuses_376 : decode cL_refuses 376 = .ok (.iconst 0, 1) := by decide +kernel
theorem dL_refuses_377 : decode cL_refuses 377 = .ok (.invokestatic 157, 3) := by decide +kernel
theorem dL_refuses_380 : decode cL_refuses 380 = .ok (.bipush (-72), 2) := by decide +kernel
theorem dL_refuses_382 : decode cL_refuses 382 = .ok (.if_icmp .ne 264, 3) := by decide +kernel
theorem dL_refuses_385 : decode cL_refuses 385 = .ok (.aload_n 0, 1) := by decide +kernel
theorem dL_refuses_386 : decode cL_refuses 386 = .ok (.iconst 0, 1) := by decide +kernel
theorem dL_refuses_387 : decode cL_refuses 387 = .ok (.iconst 0, 1) := by decide +kernel
theorem dL_refuses_388 : decode cL_refuses 388 = .ok (.iconst 0, 1) := by decide +kernel
theorem dL_refuses_389 : decode cL_refuses 389 = .ok (.iconst 0, 1) := by decide +kernel
theorem dL_refuses_390 : decode cL_refuses 390 = .ok (.iload 16, 2) := by decide +kernel
theorem dL_refuses_392 : decode cL_refuses 392 = .ok (.iconst 0, 1) := by decide +kernel
theorem dL_refuses_393 : decode cL_refuses 393 = .ok (.invokestatic 157, 3) := by decide +kernel
theorem dL_refuses_396 : decode cL_refuses 396 = .ok (.bipush (-72), 2) := by decide +kernel
theorem dL_refuses_398 : decode cL_refuses 398 = .ok (.if_icmp .ne 248, 3) := by decide +kernel
theorem dL_refuses_401 : decode cL_refuses 401 = .ok (.aload_n 0, 1) := by decide +kernel
theorem dL_refuses_402 : decode cL_refuses 402 = .ok (.iconst 0, 1) := by decide +kernel
theorem dL_refuses_403 : decode cL_refuses 403 = .ok (.iconst 0, 1) := by decide +kernel
theorem dL_refuses_404 : decode cL_refuses 404 = .ok (.iconst 0, 1) := by decide +kernel
theorem dL_refuses_405 : decode cL_refuses 405 = .ok (.iconst 0, 1) := by decide +kernel
theorem dL_refuses_406 : decode cL_refuses 406 = .ok (.iconst 0, 1) := by decide +kernel
theorem dL_refuses_407 : decode cL_refuses 407 = .ok (.iload 10, 2) := by decide +kernel
theorem dL_refuses_409 : decode cL_refuses 409 = .ok (.iconst 1, 1) := by decide +kernel
theorem dL_refuses_410 : decode cL_refuses 410 = .ok (.if_icmp .ne 7, 3) := by decide +kernel
theorem dL_refuses_413 : decode cL_refuses 413 = .ok (.iconst 1, 1) := by decide +kernel
theorem dL_refuses_414 : decode cL_refuses 414 = .ok (.goto 5, 3) := by decide +kernel
theorem dL_refuses_417 : decode cL_refuses 417 = .ok (.iload 11, 2) := by decide +kernel
theorem dL_refuses_419 : decode cL_refuses 419 = .ok (.invokestatic 157, 3) := by decide +kernel
theorem dL_refuses_422 : decode cL_refuses 422 = .ok (.bipush (-72), 2) := by decide +kernel
theorem dL_refuses_424 : decode cL_refuses 424 = .ok (.if_icmp .ne 222, 3) := by decide +kernel
theorem dL_refuses_427 : decode cL_refuses 427 = .ok (.aload_n 0, 1) := by decide +kernel
theorem dL_refuses_428 : decode cL_refuses 428 = .ok (.iconst 0, 1) := by decide +kernel
theorem dL_refuses_429 : decode cL_refuses 429 = .ok (.iconst 0, 1) := by decide +kernel
theorem dL_refuses_430 : decode cL_refuses 430 = .ok (.iconst 1, 1) := by decide +kernel
theorem dL_refuses_431 : decode cL_refuses 431 = .ok (.iconst 0, 1) := by decide +kernel
theorem dL_refuses_432 : decode cL_refuses 432 = .ok (.bipush 9, 2) := by decide +kernel
theorem dL_refuses_434 : decode cL_refuses 434 = .ok (.iload 10, 2) := by decide +kernel
theorem dL_refuses_436 : decode cL_refuses 436 = .ok (.iconst 1, 1) := by decide +kernel
theorem dL_refuses_437 : decode cL_refuses 437 = .ok (.if_icmp .ne 8, 3) := by decide +kernel
theorem dL_refuses_440 : decode cL_refuses 440 = .ok (.bipush 8, 2) := by decide +kernel
theorem dL_refuses_442 : decode cL_refuses 442 = .ok (.goto 15, 3) := by decide +kernel
theorem dL_refuses_445 : decode cL_refuses 445 = .ok (.iload 10, 2) := by decide +kernel
theorem dL_refuses_447 : decode cL_refuses 447 = .ok (.ifCond .ne 8, 3) := by decide +kernel
theorem dL_refuses_450 : decode cL_refuses 450 = .ok (.bipush 64, 2) := by decide +kernel
theorem dL_refuses_452 : decode cL_refuses 452 = .ok (.goto 5, 3) := by decide +kernel
theorem dL_refuses_455 : decode cL_refuses 455 = .ok (.iload 11, 2) := by decide +kernel
theorem dL_refuses_457 : decode cL_refuses 457 = .ok (.invokestatic 157, 3) := by decide +kernel
theorem dL_refuses_460 : decode cL_refuses 460 = .ok (.bipush (-72), 2) := by decide +kernel
theorem dL_refuses_462 : decode cL_refuses 462 = .ok (.if_icmp .ne 184, 3) := by decide +kernel
theorem dL_refuses_465 : decode cL_refuses 465 = .ok (.aload_n 0, 1) := by decide +kernel
theorem dL_refuses_466 : decode cL_refuses 466 = .ok (.iconst 0, 1) := by decide +kernel
theorem dL_refuses_467 : decode cL_refuses 467 = .ok (.iconst 0, 1) := by decide +kernel
theorem dL_refuses_468 : decode cL_refuses 468 = .ok (.iconst 2, 1) := by decide +kernel
theorem dL_refuses_469 : decode cL_refuses 469 = .ok (.iconst 0, 1) := by decide +kernel
theorem dL_refuses_470 : decode cL_refuses 470 = .ok (.bipush 9, 2) := by decide +kernel
theorem dL_refuses_472 : decode cL_refuses 472 = .ok (.iload 16, 2) := by decide +kernel
theorem dL_refuses_474 : decode cL_refuses 474 = .ok (.invokestatic 157, 3) := by decide +kernel
theorem dL_refuses_477 : decode cL_refuses 477 = .ok (.bipush (-72), 2) := by decide +kernel
theorem dL_refuses_479 : decode cL_refuses 479 = .ok (.if_icmp .ne 167, 3) := by decide +kernel
theorem dL_refuses_482 : decode cL_refuses 482 = .ok (.aload_n 0, 1) := by decide +kernel
theorem dL_refuses_483 : decode cL_refuses 483 = .ok (.iconst 0, 1) := by decide +kernel
theorem dL_refuses_484 : decode cL_refuses 484 = .ok (.iconst 0, 1) := by decide +kernel
theorem dL_refuses_485 : decode cL_refuses 485 = .ok (.iconst 5, 1) := by decide +kernel
theorem dL_refuses_486 : decode cL_refuses 486 = .ok (.iconst 0, 1) := by decide +kernel
theorem dL_refuses_487 : decode cL_refuses 487 = .ok (.iconst 1, 1) := by decide +kernel
theorem dL_refuses_488 : decode cL_refuses 488 = .ok (.iload 10, 2) := by decide +kernel
theorem dL_refuses_490 : decode cL_refuses 490 = .ok (.ifCond .ne 8, 3) := by decide +kernel
theorem dL_refuses_493 : decode cL_refuses 493 = .ok (.bipush (-64), 2) := by decide +kernel
theorem dL_refuses_495 : decode cL_refuses 495 = .ok (.goto 16, 3) := by decide +kernel
theorem dL_refuses_498 : decode cL_refuses 498 = .ok (.iload 10, 2) := by decide +kernel
theorem dL_refuses_500 : decode cL_refuses 500 = .ok (.iconst 1, 1) := by decide +kernel
theorem dL_refuses_501 : decode cL_refuses 501 = .ok (.if_icmp .ne 8, 3) := by decide +kernel
theorem dL_refuses_504 : decode cL_refuses 504 = .ok (.bipush 64, 2) := by decide +kernel
theorem dL_refuses_506 : decode cL_refuses 506 = .ok (.goto 5, 3) := by decide +kernel
theorem dL_refuses_509 : decode cL_refuses 509 = .ok (.iload 11, 2) := by decide +kernel
theorem dL_refuses_511 : decode cL_refuses 511 = .ok (.invokestatic 157, 3) := by decide +kernel
theorem dL_refuses_514 : decode cL_refuses 514 = .ok (.bipush (-72), 2) := by decide +kernel
theorem dL_refuses_516 : decode cL_refuses 516 = .ok (.if_icmp .ne 130, 3) := by decide +kernel
theorem dL_refuses_519 : decode cL_refuses 519 = .ok (.aload_n 0, 1) := by decide +kernel
theorem dL_refuses_520 : decode cL_refuses 520 = .ok (.iconst 0, 1) := by decide +kernel
theorem dL_refuses_521 : decode cL_refuses 521 = .ok (.iconst 0, 1) := by decide +kernel
theorem dL_refuses_522 : decode cL_refuses 522 = .ok (.bipush 12, 2) := by decide +kernel
theorem dL_refuses_524 : decode cL_refuses 524 = .ok (.iconst 0, 1) := by decide +kernel
theorem dL_refuses_525 : decode cL_refuses 525 = .ok (.iload 10, 2) := by decide +kernel
theorem dL_refuses_527 : decode cL_refuses 527 = .ok (.ifCond .ne 7, 3) := by decide +kernel
theorem dL_refuses_530 : decode cL_refuses 530 = .ok (.iconst 0, 1) := by decide +kernel
theorem dL_refuses_531 : decode cL_refuses 531 = .ok (.goto 15, 3) := by decide +kernel
theorem dL_refuses_534 : decode cL_refuses 534 = .ok (.iload 10, 2) := by decide +kernel
theorem dL_refuses_536 : decode cL_refuses 536 = .ok (.iconst 1, 1) := by decide +kernel
theorem dL_refuses_537 : decode cL_refuses 537 = .ok (.if_icmp .ne 7, 3) := by decide +kernel
theorem dL_refuses_540 : decode cL_refuses 540 = .ok (.iconst 4, 1) := by decide +kernel
theorem dL_refuses_541 : decode cL_refuses 541 = .ok (.goto 5, 3) := by decide +kernel
theorem dL_refuses_544 : decode cL_refuses 544 = .ok (.iload 11, 2) := by decide +kernel
theorem dL_refuses_546 : decode cL_refuses 546 = .ok (.iconst 0, 1) := by decide +kernel
theorem dL_refuses_547 : decode cL_refuses 547 = .ok (.invokestatic 157, 3) := by decide +kernel
theorem dL_refuses_550 : decode cL_refuses 550 = .ok (.bipush (-72), 2) := by decide +kernel
theorem dL_refuses_552 : decode cL_refuses 552 = .ok (.if_icmp .ne 94, 3) := by decide +kernel
theorem dL_refuses_555 : decode cL_refuses 555 = .ok (.aload_n 0, 1) := by decide +kernel
theorem dL_refuses_556 : decode cL_refuses 556 = .ok (.iconst 0, 1) := by decide +kernel
theorem dL_refuses_557 : decode cL_refuses 557 = .ok (.iconst 0, 1) := by decide +kernel
theorem dL_refuses_558 : decode cL_refuses 558 = .ok (.bipush 8, 2) := by decide +kernel
theorem dL_refuses_560 : decode cL_refuses 560 = .ok (.iload 10, 2) := by decide +kernel
theorem dL_refuses_562 : decode cL_refuses 562 = .ok (.iadd, 1) := by decide +kernel
theorem dL_refuses_563 : decode cL_refuses 563 = .ok (.iconst 0, 1) := by decide +kernel
theorem dL_refuses_564 : decode cL_refuses 564 = .ok (.iconst 1, 1) := by decide +kernel
theorem dL_refuses_565 : decode cL_refuses 565 = .ok (.iconst 0, 1) := by decide +kernel
theorem dL_refuses_566 : decode cL_refuses 566 = .ok (.invokestatic 157, 3) := by decide +kernel
theorem dL_refuses_569 : decode cL_refuses 569 = .ok (.bipush (-72), 2) := by decide +kernel
theorem dL_refuses_571 : decode cL_refuses 571 = .ok (.if_icmp .ne 75, 3) := by decide +kernel
theorem dL_refuses_574 : decode cL_refuses 574 = .ok (.aload_n 0, 1) := by decide +kernel
theorem dL_refuses_575 : decode cL_refuses 575 = .ok (.iconst 0, 1) := by decide +kernel
theorem dL_refuses_576 : decode cL_refuses 576 = .ok (.iconst 0, 1) := by decide +kernel
theorem dL_refuses_577 : decode cL_refuses 577 = .ok (.bipush 8, 2) := by decide +kernel
theorem dL_refuses_579 : decode cL_refuses 579 = .ok (.iload 10, 2) := by decide +kernel
theorem dL_refuses_581 : decode cL_refuses 581 = .ok (.iadd, 1) := by decide +kernel
theorem dL_refuses_582 : decode cL_refuses 582 = .ok (.iconst 0, 1) := by decide +kernel
theorem dL_refuses_583 : decode cL_refuses 583 = .ok (.iconst 0, 1) := by decide +kernel
theorem dL_refuses_584 : decode cL_refuses 584 = .ok (.iconst 1, 1) := by decide +kernel
theorem dL_refuses_585 : decode cL_refuses 585 = .ok (.invokestatic 157, 3) := by decide +kernel
theorem dL_refuses_588 : decode cL_refuses 588 = .ok (.bipush (-72), 2) := by decide +kernel
theorem dL_refuses_590 : decode cL_refuses 590 = .ok (.if_icmp .ne 56, 3) := by decide +kernel
theorem dL_refuses_593 : decode cL_refuses 593 = .ok (.aload_n 0, 1) := by decide +kernel
theorem dL_refuses_594 : decode cL_refuses 594 = .ok (.iconst 1, 1) := by decide +kernel
theorem dL_refuses_595 : decode cL_refuses 595 = .ok (.iload 12, 2) := by decide +kernel
theorem dL_refuses_597 : decode cL_refuses 597 = .ok (.iconst 0, 1) := by decide +kernel
