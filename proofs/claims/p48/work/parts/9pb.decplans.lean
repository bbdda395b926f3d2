theorem dL_plans_0 : decode cL_plans 0 = .ok (.new 8, 3) := by decide +kernel
theorem dL_plans_3 : decode cL_plans 3 = .ok (.dup, 1) := by decide +kernel
theorem dL_plans_4 : decode cL_plans 4 = .ok (.invokespecial 161, 3) := by decide +kernel
theorem dL_plans_7 : decode cL_plans 7 = .ok (.astore_n 0, 1) := by decide +kernel
theorem dL_plans_8 : decode cL_plans 8 = .ok (.bipush (-73), 2) := by decide +kernel
theorem dL_plans_10 : decode cL_plans 10 = .ok (.istore_n 1, 1) := by decide +kernel
theorem dL_plans_11 : decode cL_plans 11 = .ok (.aload_n 0, 1) := by decide +kernel
theorem dL_plans_12 : decode cL_plans 12 = .ok (.iconst 0, 1) := by decide +kernel
theorem dL_plans_13 : decode cL_plans 13 = .ok (.iconst 1, 1) := by decide +kernel
theorem dL_plans_14 : decode cL_plans 14 = .ok (.iconst 2, 1) := by decide +kernel
theorem dL_plans_15 : decode cL_plans 15 = .ok (.iconst 0, 1) := by decide +kernel
theorem dL_plans_16 : decode cL_plans 16 = .ok (.iconst 0, 1) := by decide +kernel
theorem dL_plans_17 : decode cL_plans 17 = .ok (.iconst 0, 1) := by decide +kernel
theorem dL_plans_18 : decode cL_plans 18 = .ok (.invokevirtual 91, 3) := by decide +kernel
theorem dL_plans_21 : decode cL_plans 21 = .ok (.aload_n 0, 1) := by decide +kernel
theorem dL_plans_22 : decode cL_plans 22 = .ok (.iconst 0, 1) := by decide +kernel
theorem dL_plans_23 : decode cL_plans 23 = .ok (.invokevirtual 61, 3) := by decide +kernel
theorem dL_plans_26 : decode cL_plans 26 = .ok (.ifCond .ne 395, 3) := by decide +kernel
theorem dL_plans_29 : decode cL_plans 29 = .ok (.aload_n 0, 1) := by decide +kernel
theorem dL_plans_30 : decode cL_plans 30 = .ok (.bipush 14, 2) := by decide +kernel
theorem dL_plans_32 : decode cL_plans 32 = .ok (.iconst 0, 1) := by decide +kernel
theorem dL_plans_33 : decode cL_plans 33 = .ok (.iconst 0, 1) := by decide +kernel
theorem dL_plans_34 : decode cL_plans 34 = .ok (.iconst 0, 1) := by decide +kernel
theorem dL_plans_35 : decode cL_plans 35 = .ok (.iconst 0, 1) := by decide +kernel
theorem dL_plans_36 : decode cL_plans 36 = .ok (.iconst 0, 1) := by decide +kernel
theorem dL_plans_37 : decode cL_plans 37 = .ok (.invokestatic 157, 3) := by decide +kernel
theorem dL_plans_40 : decode cL_plans 40 = .ok (.iload_n 1, 1) := by decide +kernel
theorem dL_plans_41 : decode cL_plans 41 = .ok (.if_icmp .ne 380, 3) := by decide +kernel
theorem dL_plans_44 : decode cL_plans 44 = .ok (.aload_n 0, 1) := by decide +kernel
theorem dL_plans_45 : decode cL_plans 45 = .ok (.iconst 0, 1) := by decide +kernel
theorem dL_plans_46 : decode cL_plans 46 = .ok (.iconst 0, 1) := by decide +kernel
theorem dL_plans_47 : decode cL_plans 47 = .ok (.iconst 3, 1) := by decide +kernel
theorem dL_plans_48 : decode cL_plans 48 = .ok (.invokevirtual 64, 3) := by decide +kernel
theorem dL_plans_51 : decode cL_plans 51 = .ok (.iconst 1, 1) := by decide +kernel
theorem dL_plans_52 : decode cL_plans 52 = .ok (.if_icmp .ne 369, 3) := by decide +kernel
theorem dL_plans_55 : decode cL_plans 55 = .ok (.aload_n 0, 1) := by decide +kernel
theorem dL_plans_56 : decode cL_plans 56 = .ok (.bipush 16, 2) := by decide +kernel
theorem dL_plans_58 : decode cL_plans 58 = .ok (.iconst 0, 1) := by decide +kernel
theorem dL_plans_59 : decode cL_plans 59 = .ok (.iconst 1, 1) := by decide +kernel
theorem dL_plans_60 : decode cL_plans 60 = .ok (.iconst 3, 1) := by decide +kernel
theorem dL_plans_61 : decode cL_plans 61 = .ok (.iconst 0, 1) := by decide +kernel
theorem dL_plans_62 : decode cL_plans 62 = .ok (.iconst 0, 1) := by decide +kernel
theorem dL_plans_63 : decode cL_plans 63 = .ok (.invokestatic 157, 3) := by decide +kernel
theorem dL_plans_66 : decode cL_plans 66 = .ok (.iload_n 1, 1) := by decide +kernel
theorem dL_plans_67 : decode cL_plans 67 = .ok (.if_icmp .ne 354, 3) := by decide +kernel
theorem dL_plans_70 : decode cL_plans 70 = .ok (.aload_n 0, 1) := by decide +kernel
theorem dL_plans_71 : decode cL_plans 71 = .ok (.iconst 0, 1) := by decide +kernel
theorem dL_plans_72 : decode cL_plans 72 = .ok (.iconst 0, 1) := by decide +kernel
theorem dL_plans_73 : decode cL_plans 73 = .ok (.iconst 0, 1) := by decide +kernel
theorem dL_plans_74 : decode cL_plans 74 = .ok (.invokevirtual 70, 3) := by decide +kernel
theorem dL_plans_77 : decode cL_plans 77 = .ok (.iconst (-1), 1) := by decide +kernel
theorem dL_plans_78 : decode cL_plans 78 = .ok (.if_icmp .ne 343, 3) := by decide +kernel
theorem dL_plans_81 : decode cL_plans 81 = .ok (.aload_n 0, 1) := by decide +kernel
theorem dL_plans_82 : decode cL_plans 82 = .ok (.iconst 0, 1) := by decide +kernel
theorem dL_plans_83 : decode cL_plans 83 = .ok (.iconst 2, 1) := by decide +kernel
theorem dL_plans_84 : decode cL_plans 84 = .ok (.iconst 1, 1) := by decide +kernel
theorem dL_plans_85 : decode cL_plans 85 = .ok (.invokevirtual 70, 3) := by decide +kernel
theorem dL_plans_88 : decode cL_plans 88 = .ok (.iconst (-1), 1) := by decide +kernel
theorem dL_plans_89 : decode cL_plans 89 = .ok (.if_icmp .ne 332, 3) := by decide +kernel
theorem dL_plans_92 : decode cL_plans 92 = .ok (.aload_n 0, 1) := by decide +kernel
theorem dL_plans_93 : decode cL_plans 93 = .ok (.bipush 18, 2) := by decide +kernel
theorem dL_plans_95 : decode cL_plans 95 = .ok (.iconst 0, 1) := by decide +kernel
theorem dL_plans_96 : decode cL_plans 96 = .ok (.iconst 1, 1) := by decide +kernel
theorem dL_plans_97 : decode cL_plans 97 = .ok (.iconst 2, 1) := by decide +kernel
theorem dL_plans_98 : decode cL_plans 98 = .ok (.iconst 0, 1) := by decide +kernel
theorem dL_plans_99 : decode cL_plans 99 = .ok (.iconst 0, 1) := by decide +kernel
theorem dL_plans_100 : decode cL_plans 100 = .ok (.invokestatic 157, 3) := by decide +kernel
theorem dL_plans_103 : decode cL_plans 103 = .ok (.iload_n 1, 1) := by decide +kernel
theorem dL_plans_104 : decode cL_plans 104 = .ok (.if_icmp .ne 317, 3) := by decide +kernel
theorem dL_plans_107 : decode cL_plans 107 = .ok (.aload_n 0, 1) := by decide +kernel
theorem dL_plans_108 : decode cL_plans 108 = .ok (.invokevirtual 149, 3) := by decide +kernel
theorem dL_plans_111 : decode cL_plans 111 = .ok (.iconst (-1), 1) := by decide +kernel
theorem dL_plans_112 : decode cL_plans 112 = .ok (.if_icmp .ne 309, 3) := by decide +kernel
theorem dL_plans_115 : decode cL_plans 115 = .ok (.aload_n 0, 1) := by decide +kernel
theorem dL_plans_116 : decode cL_plans 116 = .ok (.invokevirtual 185, 3) := by decide +kernel
theorem dL_plans_119 : decode cL_plans 119 = .ok (.iconst (-1), 1) := by decide +kernel
theorem dL_plans_120 : decode cL_plans 120 = .ok (.if_icmp .ne 301, 3) := by decide +kernel
theorem dL_plans_123 : decode cL_plans 123 = .ok (.aload_n 0, 1) := by decide +kernel
theorem dL_plans_124 : decode cL_plans 124 = .ok (.bipush 21, 2) := by decide +kernel
theorem dL_plans_126 : decode cL_plans 126 = .ok (.iconst 0, 1) := by decide +kernel
theorem dL_plans_127 : decode cL_plans 127 = .ok (.iconst 0, 1) := by decide +kernel
theorem dL_plans_128 : decode cL_plans 128 = .ok (.iconst 0, 1) := by decide +kernel
theorem dL_plans_129 : decode cL_plans 129 = .ok (.iconst 0, 1) := by decide +kernel
theorem dL_plans_130 : decode cL_plans 130 = .ok (.iconst 0, 1) := by decide +kernel
theorem dL_plans_131 : decode cL_plans 131 = .ok (.invokestatic 157, 3) := by decide +kernel
theorem dL_plans_134 : decode cL_plans 134 = .ok (.iload_n 1, 1) := by decide +kernel
theorem dL_plans_135 : decode cL_plans 135 = .ok (.if_icmp .ne 286, 3) := by decide +kernel
theorem dL_plans_138 : decode cL_plans 138 = .ok (.aload_n 0, 1) := by decide +kernel
theorem dL_plans_139 : decode cL_plans 139 = .ok (.iconst 3, 1) := by decide +kernel
theorem dL_plans_140 : decode cL_plans 140 = .ok (.iconst 0, 1) := by decide +kernel
theorem dL_plans_141 : decode cL_plans 141 = .ok (.invokevirtual 76, 3) := by decide +kernel
theorem dL_plans_144 : decode cL_plans 144 = .ok (.iconst (-1), 1) := by decide +kernel
theorem dL_plans_145 : decode cL_plans 145 = .ok (.if_icmp .ne 276, 3) := by decide +kernel
theorem dL_plans_148 : decode cL_plans 148 = .ok (.aload_n 0, 1) := by decide +kernel
theorem dL_plans_149 : decode cL_plans 149 = .ok (.iconst 3, 1) := by decide +kernel
theorem dL_plans_150 : decode cL_plans 150 = .ok (.iconst 1, 1) := by decide +kernel
theorem dL_plans_151 : decode cL_plans 151 = .ok (.invokevirtual 76, 3) := by decide +kernel
theorem dL_plans_154 : decode cL_plans 154 = .ok (.ifCond .ne 267, 3) := by decide +kernel
theorem dL_plans_157 : decode cL_plans 157 = .ok (.aload_n 0, 1) := by decide +kernel
theorem dL_plans_158 : decode cL_plans 158 = .ok (.iconst 0, 1) := by decide +kernel
theorem dL_plans_159 : decode cL_plans 159 = .ok (.iconst 0, 1) := by decide +kernel
theorem dL_plans_160 : decode cL_plans 160 = .ok (.iconst 0, 1) := by decide +kernel
theorem dL_plans_161 : decode cL_plans 161 = .ok (.iconst 5, 1) := by decide +kernel
theorem dL_plans_162 : decode cL_plans 162 = .ok (.iconst 0, 1) := by decide +kernel
theorem dL_plans_163 : decode cL_plans 163 = .ok (.invokevirtual 7, 3) := by decide +kernel
theorem dL_plans_166 : decode cL_plans 166 = .ok (.ifCond .ne 255, 3) := by decide +kernel
theorem dL_plans_169 : decode cL_plans 169 = .ok (.aload_n 0, 1) := by decide +kernel
theorem dL_plans_170 : decode cL_plans 170 = .ok (.iconst 0, 1) := by decide +kernel
theorem dL_plans_171 : decode cL_plans 171 = .ok (.iconst 0, 1) := by decide +kernel
theorem dL_plans_172 : decode cL_plans 172 = .ok (.iconst 1, 1) := by decide +kernel
theorem dL_plans_173 : decode cL_plans 173 = .ok (.bipush 7, 2) := by decide +kernel
theorem dL_plans_175 : decode cL_plans 175 = .ok (.iconst 0, 1) := by decide +kernel
theorem dL_plans_176 : decode cL_plans 176 = .ok (.invokevirtual 7, 3) := by decide +kernel
theorem dL_plans_179 : decode cL_plans 179 = .ok (.iconst 1, 1) := by decide +kernel
theorem dL_plans_180 : decode cL_plans 180 = .ok (.if_icmp .ne 241, 3) := by decide +kernel
theorem dL_plans_183 : decode cL_plans 183 = .ok (.aload_n 0, 1) := by decide +kernel
theorem dL_plans_184 : decode cL_plans 184 = .ok (.iconst 3, 1) := by decide +kernel
theorem dL_plans_185 : decode cL_plans 185 = .ok (.iconst 0, 1) := by decide +kernel
theorem dL_plans_186 : decode cL_plans 186 = .ok (.invokevirtual 76, 3) := by decide +kernel
theorem dL_plans_189 : decode cL_plans 189 = .ok (.iconst 5, 1) := by decide +kernel
theorem dL_plans_190 : decode cL_plans 190 = .ok (.if_icmp .ne 231, 3) := by decide +kernel
theorem dL_plans_193 : decode cL_plans 193 = .ok (.aload_n 0, 1) := by decide +kernel
theorem dL_plans_194 : decode cL_plans 194 = .ok (.bipush 9, 2) := by decide +kernel
theorem dL_plans_196 : decode cL_plans 196 = .ok (.iconst 2, 1) := by decide +kernel
theorem dL_plans_197 : decode cL_plans 197 = .ok (.invokevirtual 76, 3) := by decide +kernel
theorem dL_plans_200 : decode cL_plans 200 = .ok (.bipush 7, 2) := by decide +kernel
theorem dL_plans_202 : decode cL_plans 202 = .ok (.if_icmp .ne 219, 3) := by decide +kernel
theorem dL_plans_205 : decode cL_plans 205 = .ok (.aload_n 0, 1) := by decide +kernel
theorem dL_plans_206 : decode cL_plans 206 = .ok (.invokevirtual 149, 3) := by decide +kernel
theorem dL_plans_209 : decode cL_plans 209 = .ok (.iconst 1, 1) := by decide +kernel
theorem dL_plans_210 : decode cL_plans 210 = .ok (.if_icmp .ne 211, 3) := by decide +kernel
theorem dL_plans_213 : decode cL_plans 213 = .ok (.aload_n 0, 1) := by decide +kernel
theorem dL_plans_214 : decode cL_plans 214 = .ok (.invokevirtual 185, 3) := by decide +kernel
theorem dL_plans_217 : decode cL_plans 217 = .ok (.iconst 1, 1) := by decide +kernel
theorem dL_plans_218 : decode cL_plans 218 = .ok (.if_icmp .ne 203, 3) := by decide +kernel
theorem dL_plans_221 : decode cL_plans 221 = .ok (.aload_n 0, 1) := by decide +kernel
theorem dL_plans_222 : decode cL_plans 222 = .ok (.iconst 0, 1) := by decide +kernel
theorem dL_plans_223 : decode cL_plans 223 = .ok (.invokevirtual 79, 3) := by decide +kernel
theorem dL_plans_226 : decode cL_plans 226 = .ok (.ifCond .ne 195, 3) := by decide +kernel
theorem dL_plans_229 : decode cL_plans 229 = .ok (.aload_n 0, 1) := by decide +kernel
theorem dL_plans_230 : decode cL_plans 230 = .ok (.iconst 0, 1) := by decide +kernel
theorem dL_plans_231 : decode cL_plans 231 = .ok (.iconst 0, 1) := by decide +kernel
theorem dL_plans_232 : decode cL_plans 232 = .ok (.invokevirtual 95, 3) := by decide +kernel
theorem dL_plans_235 : decode cL_plans 235 = .ok (.bipush 103, 2) := by decide +kernel
theorem dL_plans_237 : decode cL_plans 237 = .ok (.if_icmp .ne 184, 3) := by decide +kernel
theorem dL_plans_240 : decode cL_plans 240 = .ok (.aload_n 0, 1) := by decide +kernel
theorem dL_plans_241 : decode cL_plans 241 = .ok (.bipush 22, 2) := by decide +kernel
theorem dL_plans_243 : decode cL_plans 243 = .ok (.iconst 0, 1) := by decide +kernel
theorem dL_plans_244 : decode cL_plans 244 = .ok (.iconst 1, 1) := by decide +kernel
theorem dL_plans_245 : decode cL_plans 245 = .ok (.iconst 0, 1) := by decide +kernel
theorem dL_plans_246 : decode cL_plans 246 = .ok (.iconst 0, 1) := by decide +kernel
theorem dL_plans_247 : decode cL_plans 247 = .ok (.iconst 0, 1) := by decide +kernel
theorem dL_plans_248 : decode cL_plans 248 = .ok (.invokestatic 157, 3) := by decide +kernel
theorem dL_plans_251 : decode cL_plans 251 = .ok (.bipush (-71), 2) := by decide +kernel
theorem dL_plans_253 : decode cL_plans 253 = .ok (.if_icmp .ne 168, 3) := by decide +kernel
theorem dL_plans_256 : decode cL_plans 256 = .ok (.aload_n 0, 1) := by decide +kernel
theorem dL_plans_257 : decode cL_plans 257 = .ok (.bipush 26, 2) := by decide +kernel
theorem dL_plans_259 : decode cL_plans 259 = .ok (.iconst 0, 1) := by decide +kernel
theorem dL_plans_260 : decode cL_plans 260 = .ok (.iconst 0, 1) := by decide +kernel
theorem dL_plans_261 : decode cL_plans 261 = .ok (.iconst 0, 1) := by decide +kernel
theorem dL_plans_262 : decode cL_plans 262 = .ok (.iconst 0, 1) := by decide +kernel
theorem dL_plans_263 : decode cL_plans 263 = .ok (.iconst 0, 1) := by decide +kernel
theorem dL_plans_264 : decode cL_plans 264 = .ok (.invokestatic 157, 3) := by decide +kernel
theorem dL_plans_267 : decode cL_plans 267 = .ok (.iload_n 1, 1) := by decide +kernel
theorem dL_plans_268 : decode cL_plans 268 = .ok (.if_icmp .ne 153, 3) := by decide +kernel
theorem dL_plans_271 : decode cL_plans 271 = .ok (.aload_n 0, 1) := by decide +kernel
theorem dL_plans_272 : decode cL_plans 272 = .ok (.bipush 23, 2) := by decide +kernel
theorem dL_plans_274 : decode cL_plans 274 = .ok (.iconst 0, 1) := by decide +kernel
theorem dL_plans_275 : decode cL_plans 275 = .ok (.iconst 0, 1) := by decide +kernel
theorem dL_plans_276 : decode cL_plans 276 = .ok (.iconst 0, 1) := by decide +kernel
theorem dL_plans_277 : decode cL_plans 277 = .ok (.iconst 0, 1) := by decide +kernel
theorem dL_plans_278 : decode cL_plans 278 = .ok (.iconst 0, 1) := by decide +kernel
theorem dL_plans_279 : decode cL_plans 279 = .ok (.invokestatic 157, 3) := by decide +kernel
theorem dL_plans_282 : decode cL_plans 282 = .ok (.iload_n 1, 1) := by decide +kernel
theorem dL_plans_283 : decode cL_plans 283 = .ok (.if_icmp .ne 138, 3) := by decide +kernel
theorem dL_plans_286 : decode cL_plans 286 = .ok (.aload_n 0, 1) := by decide +kernel
theorem dL_plans_287 : decode cL_plans 287 = .ok (.iconst 0, 1) := by decide +kernel
theorem dL_plans_288 : decode cL_plans 288 = .ok (.iconst 1, 1) := by decide +kernel
theorem dL_plans_289 : decode cL_plans 289 = .ok (.invokevirtual 98, 3) := by decide +kernel
theorem dL_plans_292 : decode cL_plans 292 = .ok (.ifCond .eq 129, 3) := by decide +kernel
theorem dL_plans_295 : decode cL_plans 295 = .ok (.aload_n 0, 1) := by decide +kernel
theorem dL_plans_296 : decode cL_plans 296 = .ok (.iconst 0, 1) := by decide +kernel
theorem dL_plans_297 : decode cL_plans 297 = .ok (.iconst 2, 1) := by decide +kernel
theorem dL_plans_298 : decode cL_plans 298 = .ok (.invokevirtual 98, 3) := by decide +kernel
theorem dL_plans_301 : decode cL_plans 301 = .ok (.ifCond .ne 120, 3) := by decide +kernel
theorem dL_plans_304 : decode cL_plans 304 = .ok (.aload_n 0, 1) := by decide +kernel
theorem dL_plans_305 : decode cL_plans 305 = .ok (.iconst 0, 1) := by decide +kernel
theorem dL_plans_306 : decode cL_plans 306 = .ok (.invokevirtual 102, 3) := by decide +kernel
theorem dL_plans_309 : decode cL_plans 309 = .ok (.ifCond .ne 112, 3) := by decide +kernel
theorem dL_plans_312 : decode cL_plans 312 = .ok (.aload_n 0, 1) := by decide +kernel
theorem dL_plans_313 : decode cL_plans 313 = .ok (.bipush 27, 2) := by decide +kernel
theorem dL_plans_315 : decode cL_plans 315 = .ok (.iconst 0, 1) := by decide +kernel
theorem dL_plans_316 : decode cL_plans 316 = .ok (.iconst 0, 1) := by decide +kernel
theorem dL_plans_317 : decode cL_plans 317 = .ok (.iconst 0, 1) := by decide +kernel
theorem dL_plans_318 : decode cL_plans 318 = .ok (.iconst 0, 1) := by decide +kernel
theorem dL_plans_319 : decode cL_plans 319 = .ok (.iconst 0, 1) := by decide +kernel
theorem dL_plans_320 : decode cL_plans 320 = .ok (.invokestatic 157, 3) := by decide +kernel
theorem dL_plans_323 : decode cL_plans 323 = .ok (.iload_n 1, 1) := by decide +kernel
theorem dL_plans_324 : decode cL_plans 324 = .ok (.if_icmp .ne 97, 3) := by decide +kernel
theorem dL_plans_327 : decode cL_plans 327 = .ok (.aload_n 0, 1) := by decide +kernel
theorem dL_plans_328 : decode cL_plans 328 = .ok (.iconst 0, 1) := by decide +kernel
theorem dL_plans_329 : decode cL_plans 329 = .ok (.invokevirtual 109, 3) := by decide +kernel
theorem dL_plans_332 : decode cL_plans 332 = .ok (.iconst 1, 1) := by decide +kernel
theorem dL_plans_333 : decode cL_plans 333 = .ok (.if_icmp .ne 88, 3) := by decide +kernel
theorem dL_plans_336 : decode cL_plans 336 = .ok (.aload_n 0, 1) := by decide +kernel
theorem dL_plans_337 : decode cL_plans 337 = .ok (.bipush 26, 2) := by decide +kernel
theorem dL_plans_339 : decode cL_plans 339 = .ok (.iconst 0, 1) := by decide +kernel
theorem dL_plans_340 : decode cL_plans 340 = .ok (.iconst 0, 1) := by decide +kernel
theorem dL_plans_341 : decode cL_plans 341 = .ok (.iconst 0, 1) := by decide +kernel
theorem dL_plans_342 : decode cL_plans 342 = .ok (.iconst 0, 1) := by decide +kernel
theorem dL_plans_343 : decode cL_plans 343 = .ok (.iconst 0, 1) := by decide +kernel
theorem dL_plans_344 : decode cL_plans 344 = .ok (.invokestatic 157, 3) := by decide +kernel
theorem dL_plans_347 : decode cL_plans 347 = .ok (.iload_n 1, 1) := by decide +kernel
theorem dL_plans_348 : decode cL_plans 348 = .ok (.if_icmp .ne 73, 3) := by decide +kernel
theorem dL_plans_351 : decode cL_plans 351 = .ok (.aload_n 0, 1) := by decide +kernel
theorem dL_plans_352 : decode cL_plans 352 = .ok (.invokevirtual 152, 3) := by decide +kernel
theorem dL_plans_355 : decode cL_plans 355 = .ok (.ifCond .eq 66, 3) := by decide +kernel
theorem dL_plans_358 : decode cL_plans 358 = .ok (.aload_n 0, 1) := by decide +kernel
theorem dL_plans_359 : decode cL_plans 359 = .ok (.invokevirtual 188, 3) := by decide +kernel
theorem dL_plans_362 : decode cL_plans 362 = .ok (.ifCond .eq 59, 3) := by decide +kernel
theorem dL_plans_365 : decode cL_plans 365 = .ok (.aload_n 0, 1) := by decide +kernel
theorem dL_plans_366 : decode cL_plans 366 = .ok (.bipush 34, 2) := by decide +kernel
theorem dL_plans_368 : decode cL_plans 368 = .ok (.iconst 0, 1) := by decide +kernel
theorem dL_plans_369 : decode cL_plans 369 = .ok (.iconst 0, 1) := by decide +kernel
theorem dL_plans_370 : decode cL_plans 370 = .ok (.iconst 0, 1) := by decide +kernel
theorem dL_plans_371 : decode cL_plans 371 = .ok (.iconst 0, 1) := by decide +kernel
theorem dL_plans_372 : decode cL_plans 372 = .ok (.iconst 0, 1) := by decide +kernel
theorem dL_plans_373 : decode cL_plans 373 = .ok (.invokestatic 157, 3) := by decide +kernel
theorem dL_plans_376 : decode cL_plans 376 = .ok (.iload_n 1, 1) := by decide +kernel
theorem dL_plans_377 : decode cL_plans 377 = .ok (.if_icmp .ne 44, 3) := by decide +kernel
theorem dL_plans_380 : decode cL_plans 380 = .ok (.aload_n 0, 1) := by decide +kernel
theorem dL_plans_381 : decode cL_plans 381 = .ok (.bipush 19, 2) := by decide +kernel
theorem dL_plans_383 : decode cL_plans 383 = .ok (.iconst 0, 1) := by decide +kernel
theorem dL_plans_384 : decode cL_plans 384 = .ok (.iconst 0, 1) := by decide +kernel
theorem dL_plans_385 : decode cL_plans 385 = .ok (.iconst 0, 1) := by decide +kernel
theorem dL_plans_386 : decode cL_plans 386 = .ok (.iconst 0, 1) := by decide +kernel
theorem dL_plans_387 : decode cL_plans 387 = .ok (.iconst 0, 1) := by decide +kernel
theorem dL_plans_388 : decode cL_plans 388 = .ok (.invokestatic 157, 3) := by decide +kernel
theorem dL_plans_391 : decode cL_plans 391 = .ok (.iload_n 1, 1) := by decide +kernel
theorem dL_plans_392 : decode cL_plans 392 = .ok (.if_icmp .ne 29, 3) := by decide +kernel
theorem dL_plans_395 : decode cL_plans 395 = .ok (.aload_n 0, 1) := by decide +kernel
theorem dL_plans_396 : decode cL_plans 396 = .ok (.bipush 25, 2) := by decide +kernel
theorem dL_plans_398 : decode cL_plans 398 = .ok (.iconst 0, 1) := by decide +kernel
theorem dL_plans_399 : decode cL_plans 399 = .ok (.iconst 0, 1) := by decide +kernel
theorem dL_plans_400 : decode cL_plans 400 = .ok (.iconst 0, 1) := by decide +kernel
theorem dL_plans_401 : decode cL_plans 401 = .ok (.iconst 0, 1) := by decide +kernel
theorem dL_plans_402 : decode cL_plans 402 = .ok (.iconst 0, 1) := by decide +kernel
theorem dL_plans_403 : decode cL_plans 403 = .ok (.invokestatic 157, 3) := by decide +kernel
theorem dL_plans_406 : decode cL_plans 406 = .ok (.iload_n 1, 1) := by decide +kernel
theorem dL_plans_407 : decode cL_plans 407 = .ok (.if_icmp .ne 14, 3) := by decide +kernel
theorem dL_plans_410 : decode cL_plans 410 = .ok (.aload_n 0, 1) := by decide +kernel
theorem dL_plans_411 : decode cL_plans 411 = .ok (.iconst 2, 1) := by decide +kernel
theorem dL_plans_412 : decode cL_plans 412 = .ok (.iconst 0, 1) := by decide +kernel
theorem dL_plans_413 : decode cL_plans 413 = .ok (.iconst 1, 1) := by decide +kernel
theorem dL_plans_414 : decode cL_plans 414 = .ok (.iconst 1, 1) := by decide +kernel
theorem dL_plans_415 : decode cL_plans 415 = .ok (.invokestatic 162, 3) := by decide +kernel
theorem dL_plans_418 : decode cL_plans 418 = .ok (.ifCond .ne 5, 3) := by decide +kernel
theorem dL_plans_421 : decode cL_plans 421 = .ok (.iconst 0, 1) := by decide +kernel
theorem dL_plans_422 : decode cL_plans 422 = .ok (.ireturn, 1) := by decide +kernel
theorem dL_plans_423 : decode cL_plans 423 = .ok (.aload_n 0, 1) := by decide +kernel
theorem dL_plans_424 : decode cL_plans 424 = .ok (.iconst 0, 1) := by decide +kernel
theorem dL_plans_425 : decode cL_plans 425 = .ok (.invokevirtual 112, 3) := by decide +kernel
theorem dL_plans_428 : decode cL_plans 428 = .ok (.bipush 103, 2) := by decide +kernel
theorem dL_plans_430 : decode cL_plans 430 = .ok (.if_icmp .ne 136, 3) := by decide +kernel
theorem dL_plans_433 : decode cL_plans 433 = .ok (.aload_n 0, 1) := by decide +kernel
theorem dL_plans_434 : decode cL_plans 434 = .ok (.invokevirtual 188, 3) := by decide +kernel
theorem dL_plans_437 : decode cL_plans 437 = .ok (.ifCond .ne 129, 3) := by decide +kernel
theorem dL_plans_440 : decode cL_plans 440 = .ok (.aload_n 0, 1) := by decide +kernel
theorem dL_plans_441 : decode cL_plans 441 = .ok (.invokevirtual 152, 3) := by decide +kernel
theorem dL_plans_444 : decode cL_plans 444 = .ok (.ifCond .ne 122, 3) := by decide +kernel
theorem dL_plans_447 : decode cL_plans 447 = .ok (.aload_n 0, 1) := by decide +kernel
theorem dL_plans_448 : decode cL_plans 448 = .ok (.invokevirtual 143, 3) := by decide +kernel
theorem dL_plans_451 : decode cL_plans 451 = .ok (.iconst 1, 1) := by decide +kernel
theorem dL_plans_452 : decode cL_plans 452 = .ok (.if_icmp .ne 114, 3) := by decide +kernel
theorem dL_plans_455 : decode cL_plans 455 = .ok (.aload_n 0, 1) := by decide +kernel
theorem dL_plans_456 : decode cL_plans 456 = .ok (.invokevirtual 146, 3) := by decide +kernel
theorem dL_plans_459 : decode cL_plans 459 = .ok (.iconst 1, 1) := by decide +kernel
theorem dL_plans_460 : decode cL_plans 460 = .ok (.if_icmp .ne 106, 3) := by decide +kernel
theorem dL_plans_463 : decode cL_plans 463 = .ok (.aload_n 0, 1) := by decide +kernel
theorem dL_plans_464 : decode cL_plans 464 = .ok (.iconst 3, 1) := by decide +kernel
theorem dL_plans_465 : decode cL_plans 465 = .ok (.iconst 0, 1) := by decide +kernel
theorem dL_plans_466 : decode cL_plans 466 = .ok (.iconst 5, 1) := by decide +kernel
theorem dL_plans_467 : decode cL_plans 467 = .ok (.iconst 3, 1) := by decide +kernel
theorem dL_plans_468 : decode cL_plans 468 = .ok (.bipush 7, 2) := by decide +kernel
theorem dL_plans_470 : decode cL_plans 470 = .ok (.invokestatic 191, 3) := by decide +kernel
theorem dL_plans_473 : decode cL_plans 473 = .ok (.ifCond .eq 93, 3) := by decide +kernel
theorem dL_plans_476 : decode cL_plans 476 = .ok (.aload_n 0, 1) := by decide +kernel
theorem dL_plans_477 : decode cL_plans 477 = .ok (.iconst 0, 1) := by decide +kernel
theorem dL_plans_478 : decode cL_plans 478 = .ok (.iconst 5, 1) := by decide +kernel
theorem dL_plans_479 : decode cL_plans 479 = .ok (.iconst 3, 1) := by decide +kernel
theorem dL_plans_480 : decode cL_plans 480 = .ok (.bipush 7, 2) := by decide +kernel
theorem dL_plans_482 : decode cL_plans 482 = .ok (.invokestatic 195, 3) := by decide +kernel
theorem dL_plans_485 : decode cL_plans 485 = .ok (.ifCond .eq 81, 3) := by decide +kernel
theorem dL_plans_488 : decode cL_plans 488 = .ok (.aload_n 0, 1) := by decide +kernel
theorem dL_plans_489 : decode cL_plans 489 = .ok (.invokevirtual 149, 3) := by decide +kernel
theorem dL_plans_492 : decode cL_plans 492 = .ok (.ifCond .ne 74, 3) := by decide +kernel
theorem dL_plans_495 : decode cL_plans 495 = .ok (.aload_n 0, 1) := by decide +kernel
theorem dL_plans_496 : decode cL_plans 496 = .ok (.invokevirtual 185, 3) := by decide +kernel
theorem dL_plans_499 : decode cL_plans 499 = .ok (.ifCond .ne 67, 3) := by decide +kernel
theorem dL_plans_502 : decode cL_plans 502 = .ok (.aload_n 0, 1) := by decide +kernel
theorem dL_plans_503 : decode cL_plans 503 = .ok (.iconst 0, 1) := by decide +kernel
theorem dL_plans_504 : decode cL_plans 504 = .ok (.invokevirtual 102, 3) := by decide +kernel
theorem dL_plans_507 : decode cL_plans 507 = .ok (.ifCond .eq 59, 3) := by decide +kernel
theorem dL_plans_510 : decode cL_plans 510 = .ok (.aload_n 0, 1) := by decide +kernel
theorem dL_plans_511 : decode cL_plans 511 = .ok (.bipush 26, 2) := by decide +kernel
theorem dL_plans_513 : decode cL_plans 513 = .ok (.iconst 0, 1) := by decide +kernel
theorem dL_plans_514 : decode cL_plans 514 = .ok (.iconst 0, 1) := by decide +kernel
theorem dL_plans_515 : decode cL_plans 515 = .ok (.iconst 0, 1) := by decide +kernel
theorem dL_plans_516 : decode cL_plans 516 = .ok (.iconst 0, 1) := by decide +kernel
theorem dL_plans_517 : decode cL_plans 517 = .ok (.iconst 0, 1) := by decide +kernel
theorem dL_plans_518 : decode cL_plans 518 = .ok (.invokestatic 157, 3) := by decide +kernel
theorem dL_plans_521 : decode cL_plans 521 = .ok (.iload_n 1, 1) := by decide +kernel
theorem dL_plans_522 : decode cL_plans 522 = .ok (.if_icmp .ne 44, 3) := by decide +kernel
theorem dL_plans_525 : decode cL_plans 525 = .ok (.aload_n 0, 1) := by decide +kernel
theorem dL_plans_526 : decode cL_plans 526 = .ok (.iconst 1, 1) := by decide +kernel
theorem dL_plans_527 : decode cL_plans 527 = .ok (.invokevirtual 79, 3) := by decide +kernel
theorem dL_plans_530 : decode cL_plans 530 = .ok (.iconst 1, 1) := by decide +kernel
theorem dL_plans_531 : decode cL_plans 531 = .ok (.if_icmp .ne 35, 3) := by decide +kernel
theorem dL_plans_534 : decode cL_plans 534 = .ok (.aload_n 0, 1) := by decide +kernel
theorem dL_plans_535 : decode cL_plans 535 = .ok (.iconst 1, 1) := by decide +kernel
