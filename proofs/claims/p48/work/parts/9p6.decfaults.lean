theorem dL_faults_0 : decode cL_faults 0 = .ok (.new 8, 3) := by decide +kernel
theorem dL_faults_3 : decode cL_faults 3 = .ok (.dup, 1) := by decide +kernel
theorem dL_faults_4 : decode cL_faults 4 = .ok (.invokespecial 161, 3) := by decide +kernel
theorem dL_faults_7 : decode cL_faults 7 = .ok (.astore_n 0, 1) := by decide +kernel
theorem dL_faults_8 : decode cL_faults 8 = .ok (.aload_n 0, 1) := by decide +kernel
theorem dL_faults_9 : decode cL_faults 9 = .ok (.iconst 0, 1) := by decide +kernel
theorem dL_faults_10 : decode cL_faults 10 = .ok (.iconst 0, 1) := by decide +kernel
theorem dL_faults_11 : decode cL_faults 11 = .ok (.iconst 4, 1) := by decide +kernel
theorem dL_faults_12 : decode cL_faults 12 = .ok (.bipush 10, 2) := by decide +kernel
theorem dL_faults_14 : decode cL_faults 14 = .ok (.iconst 0, 1) := by decide +kernel
theorem dL_faults_15 : decode cL_faults 15 = .ok (.invokevirtual 13, 3) := by decide +kernel
theorem dL_faults_18 : decode cL_faults 18 = .ok (.ifCond .ne 323, 3) := by decide +kernel
theorem dL_faults_21 : decode cL_faults 21 = .ok (.aload_n 0, 1) := by decide +kernel
theorem dL_faults_22 : decode cL_faults 22 = .ok (.iconst 0, 1) := by decide +kernel
theorem dL_faults_23 : decode cL_faults 23 = .ok (.bipush 12, 2) := by decide +kernel
theorem dL_faults_25 : decode cL_faults 25 = .ok (.iconst 0, 1) := by decide +kernel
theorem dL_faults_26 : decode cL_faults 26 = .ok (.iconst 1, 1) := by decide +kernel
theorem dL_faults_27 : decode cL_faults 27 = .ok (.iconst 0, 1) := by decide +kernel
theorem dL_faults_28 : decode cL_faults 28 = .ok (.invokevirtual 7, 3) := by decide +kernel
theorem dL_faults_31 : decode cL_faults 31 = .ok (.iconst 1, 1) := by decide +kernel
theorem dL_faults_32 : decode cL_faults 32 = .ok (.if_icmp .ne 309, 3) := by decide +kernel
theorem dL_faults_35 : decode cL_faults 35 = .ok (.aload_n 0, 1) := by decide +kernel
theorem dL_faults_36 : decode cL_faults 36 = .ok (.iconst 4, 1) := by decide +kernel
theorem dL_faults_37 : decode cL_faults 37 = .ok (.invokevirtual 40, 3) := by decide +kernel
theorem dL_faults_40 : decode cL_faults 40 = .ok (.iconst (-1), 1) := by decide +kernel
theorem dL_faults_41 : decode cL_faults 41 = .ok (.if_icmp .ne 300, 3) := by decide +kernel
theorem dL_faults_44 : decode cL_faults 44 = .ok (.aload_n 0, 1) := by decide +kernel
theorem dL_faults_45 : decode cL_faults 45 = .ok (.iconst 0, 1) := by decide +kernel
theorem dL_faults_46 : decode cL_faults 46 = .ok (.invokevirtual 37, 3) := by decide +kernel
theorem dL_faults_49 : decode cL_faults 49 = .ok (.iconst (-1), 1) := by decide +kernel
theorem dL_faults_50 : decode cL_faults 50 = .ok (.if_icmp .ne 291, 3) := by decide +kernel
theorem dL_faults_53 : decode cL_faults 53 = .ok (.aload_n 0, 1) := by decide +kernel
theorem dL_faults_54 : decode cL_faults 54 = .ok (.iconst 0, 1) := by decide +kernel
theorem dL_faults_55 : decode cL_faults 55 = .ok (.invokevirtual 16, 3) := by decide +kernel
theorem dL_faults_58 : decode cL_faults 58 = .ok (.iconst 1, 1) := by decide +kernel
theorem dL_faults_59 : decode cL_faults 59 = .ok (.if_icmp .ne 282, 3) := by decide +kernel
theorem dL_faults_62 : decode cL_faults 62 = .ok (.aload_n 0, 1) := by decide +kernel
theorem dL_faults_63 : decode cL_faults 63 = .ok (.iconst 4, 1) := by decide +kernel
theorem dL_faults_64 : decode cL_faults 64 = .ok (.invokevirtual 40, 3) := by decide +kernel
theorem dL_faults_67 : decode cL_faults 67 = .ok (.bipush 10, 2) := by decide +kernel
theorem dL_faults_69 : decode cL_faults 69 = .ok (.if_icmp .ne 272, 3) := by decide +kernel
theorem dL_faults_72 : decode cL_faults 72 = .ok (.aload_n 0, 1) := by decide +kernel
theorem dL_faults_73 : decode cL_faults 73 = .ok (.iconst 0, 1) := by decide +kernel
theorem dL_faults_74 : decode cL_faults 74 = .ok (.invokevirtual 37, 3) := by decide +kernel
theorem dL_faults_77 : decode cL_faults 77 = .ok (.ifCond .ne 264, 3) := by decide +kernel
theorem dL_faults_80 : decode cL_faults 80 = .ok (.aload_n 0, 1) := by decide +kernel
theorem dL_faults_81 : decode cL_faults 81 = .ok (.iconst 0, 1) := by decide +kernel
theorem dL_faults_82 : decode cL_faults 82 = .ok (.iconst 0, 1) := by decide +kernel
theorem dL_faults_83 : decode cL_faults 83 = .ok (.iconst 4, 1) := by decide +kernel
theorem dL_faults_84 : decode cL_faults 84 = .ok (.bipush 20, 2) := by decide +kernel
theorem dL_faults_86 : decode cL_faults 86 = .ok (.iconst 0, 1) := by decide +kernel
theorem dL_faults_87 : decode cL_faults 87 = .ok (.invokevirtual 13, 3) := by decide +kernel
theorem dL_faults_90 : decode cL_faults 90 = .ok (.iconst 2, 1) := by decide +kernel
theorem dL_faults_91 : decode cL_faults 91 = .ok (.if_icmp .ne 250, 3) := by decide +kernel
theorem dL_faults_94 : decode cL_faults 94 = .ok (.aload_n 0, 1) := by decide +kernel
theorem dL_faults_95 : decode cL_faults 95 = .ok (.iconst 4, 1) := by decide +kernel
theorem dL_faults_96 : decode cL_faults 96 = .ok (.invokevirtual 40, 3) := by decide +kernel
theorem dL_faults_99 : decode cL_faults 99 = .ok (.bipush 10, 2) := by decide +kernel
theorem dL_faults_101 : decode cL_faults 101 = .ok (.if_icmp .ne 240, 3) := by decide +kernel
theorem dL_faults_104 : decode cL_faults 104 = .ok (.aload_n 0, 1) := by decide +kernel
theorem dL_faults_105 : decode cL_faults 105 = .ok (.iconst 0, 1) := by decide +kernel
theorem dL_faults_106 : decode cL_faults 106 = .ok (.invokevirtual 16, 3) := by decide +kernel
theorem dL_faults_109 : decode cL_faults 109 = .ok (.iconst 2, 1) := by decide +kernel
theorem dL_faults_110 : decode cL_faults 110 = .ok (.if_icmp .ne 231, 3) := by decide +kernel
theorem dL_faults_113 : decode cL_faults 113 = .ok (.aload_n 0, 1) := by decide +kernel
theorem dL_faults_114 : decode cL_faults 114 = .ok (.iconst 4, 1) := by decide +kernel
theorem dL_faults_115 : decode cL_faults 115 = .ok (.invokevirtual 40, 3) := by decide +kernel
theorem dL_faults_118 : decode cL_faults 118 = .ok (.bipush 10, 2) := by decide +kernel
theorem dL_faults_120 : decode cL_faults 120 = .ok (.if_icmp .ne 221, 3) := by decide +kernel
theorem dL_faults_123 : decode cL_faults 123 = .ok (.aload_n 0, 1) := by decide +kernel
theorem dL_faults_124 : decode cL_faults 124 = .ok (.iconst 2, 1) := by decide +kernel
theorem dL_faults_125 : decode cL_faults 125 = .ok (.invokevirtual 37, 3) := by decide +kernel
theorem dL_faults_128 : decode cL_faults 128 = .ok (.iconst (-1), 1) := by decide +kernel
theorem dL_faults_129 : decode cL_faults 129 = .ok (.if_icmp .ne 212, 3) := by decide +kernel
theorem dL_faults_132 : decode cL_faults 132 = .ok (.aload_n 0, 1) := by decide +kernel
theorem dL_faults_133 : decode cL_faults 133 = .ok (.iconst 1, 1) := by decide +kernel
theorem dL_faults_134 : decode cL_faults 134 = .ok (.bipush 12, 2) := by decide +kernel
theorem dL_faults_136 : decode cL_faults 136 = .ok (.iconst 0, 1) := by decide +kernel
theorem dL_faults_137 : decode cL_faults 137 = .ok (.iconst 3, 1) := by decide +kernel
theorem dL_faults_138 : decode cL_faults 138 = .ok (.iconst 0, 1) := by decide +kernel
theorem dL_faults_139 : decode cL_faults 139 = .ok (.invokevirtual 7, 3) := by decide +kernel
theorem dL_faults_142 : decode cL_faults 142 = .ok (.iconst 3, 1) := by decide +kernel
theorem dL_faults_143 : decode cL_faults 143 = .ok (.if_icmp .ne 198, 3) := by decide +kernel
theorem dL_faults_146 : decode cL_faults 146 = .ok (.aload_n 0, 1) := by decide +kernel
theorem dL_faults_147 : decode cL_faults 147 = .ok (.iconst 4, 1) := by decide +kernel
theorem dL_faults_148 : decode cL_faults 148 = .ok (.invokevirtual 40, 3) := by decide +kernel
theorem dL_faults_151 : decode cL_faults 151 = .ok (.bipush 20, 2) := by decide +kernel
theorem dL_faults_153 : decode cL_faults 153 = .ok (.if_icmp .ne 188, 3) := by decide +kernel
theorem dL_faults_156 : decode cL_faults 156 = .ok (.aload_n 0, 1) := by decide +kernel
theorem dL_faults_157 : decode cL_faults 157 = .ok (.iconst 0, 1) := by decide +kernel
theorem dL_faults_158 : decode cL_faults 158 = .ok (.invokevirtual 37, 3) := by decide +kernel
theorem dL_faults_161 : decode cL_faults 161 = .ok (.iconst (-1), 1) := by decide +kernel
theorem dL_faults_162 : decode cL_faults 162 = .ok (.if_icmp .ne 179, 3) := by decide +kernel
theorem dL_faults_165 : decode cL_faults 165 = .ok (.aload_n 0, 1) := by decide +kernel
theorem dL_faults_166 : decode cL_faults 166 = .ok (.iconst 2, 1) := by decide +kernel
theorem dL_faults_167 : decode cL_faults 167 = .ok (.invokevirtual 37, 3) := by decide +kernel
theorem dL_faults_170 : decode cL_faults 170 = .ok (.ifCond .ne 171, 3) := by decide +kernel
theorem dL_faults_173 : decode cL_faults 173 = .ok (.aload_n 0, 1) := by decide +kernel
theorem dL_faults_174 : decode cL_faults 174 = .ok (.iconst 1, 1) := by decide +kernel
theorem dL_faults_175 : decode cL_faults 175 = .ok (.bipush 12, 2) := by decide +kernel
theorem dL_faults_177 : decode cL_faults 177 = .ok (.iconst 2, 1) := by decide +kernel
theorem dL_faults_178 : decode cL_faults 178 = .ok (.iconst 1, 1) := by decide +kernel
theorem dL_faults_179 : decode cL_faults 179 = .ok (.iconst 0, 1) := by decide +kernel
theorem dL_faults_180 : decode cL_faults 180 = .ok (.invokevirtual 13, 3) := by decide +kernel
theorem dL_faults_183 : decode cL_faults 183 = .ok (.iconst 4, 1) := by decide +kernel
theorem dL_faults_184 : decode cL_faults 184 = .ok (.if_icmp .ne 157, 3) := by decide +kernel
theorem dL_faults_187 : decode cL_faults 187 = .ok (.aload_n 0, 1) := by decide +kernel
theorem dL_faults_188 : decode cL_faults 188 = .ok (.iconst 2, 1) := by decide +kernel
theorem dL_faults_189 : decode cL_faults 189 = .ok (.iconst 0, 1) := by decide +kernel
theorem dL_faults_190 : decode cL_faults 190 = .ok (.iconst 5, 1) := by decide +kernel
theorem dL_faults_191 : decode cL_faults 191 = .ok (.bipush 30, 2) := by decide +kernel
theorem dL_faults_193 : decode cL_faults 193 = .ok (.iconst 0, 1) := by decide +kernel
theorem dL_faults_194 : decode cL_faults 194 = .ok (.invokevirtual 13, 3) := by decide +kernel
theorem dL_faults_197 : decode cL_faults 197 = .ok (.iconst 5, 1) := by decide +kernel
theorem dL_faults_198 : decode cL_faults 198 = .ok (.if_icmp .ne 143, 3) := by decide +kernel
theorem dL_faults_201 : decode cL_faults 201 = .ok (.aload_n 0, 1) := by decide +kernel
theorem dL_faults_202 : decode cL_faults 202 = .ok (.iconst 2, 1) := by decide +kernel
theorem dL_faults_203 : decode cL_faults 203 = .ok (.invokevirtual 16, 3) := by decide +kernel
theorem dL_faults_206 : decode cL_faults 206 = .ok (.iconst 1, 1) := by decide +kernel
theorem dL_faults_207 : decode cL_faults 207 = .ok (.if_icmp .ne 134, 3) := by decide +kernel
theorem dL_faults_210 : decode cL_faults 210 = .ok (.aload_n 0, 1) := by decide +kernel
theorem dL_faults_211 : decode cL_faults 211 = .ok (.iconst 1, 1) := by decide +kernel
theorem dL_faults_212 : decode cL_faults 212 = .ok (.invokevirtual 16, 3) := by decide +kernel
theorem dL_faults_215 : decode cL_faults 215 = .ok (.iconst 1, 1) := by decide +kernel
theorem dL_faults_216 : decode cL_faults 216 = .ok (.if_icmp .ne 125, 3) := by decide +kernel
theorem dL_faults_219 : decode cL_faults 219 = .ok (.aload_n 0, 1) := by decide +kernel
theorem dL_faults_220 : decode cL_faults 220 = .ok (.iconst 5, 1) := by decide +kernel
theorem dL_faults_221 : decode cL_faults 221 = .ok (.invokevirtual 40, 3) := by decide +kernel
theorem dL_faults_224 : decode cL_faults 224 = .ok (.iconst (-1), 1) := by decide +kernel
theorem dL_faults_225 : decode cL_faults 225 = .ok (.if_icmp .ne 116, 3) := by decide +kernel
theorem dL_faults_228 : decode cL_faults 228 = .ok (.aload_n 0, 1) := by decide +kernel
theorem dL_faults_229 : decode cL_faults 229 = .ok (.iconst 0, 1) := by decide +kernel
theorem dL_faults_230 : decode cL_faults 230 = .ok (.bipush 12, 2) := by decide +kernel
theorem dL_faults_232 : decode cL_faults 232 = .ok (.iconst 1, 1) := by decide +kernel
theorem dL_faults_233 : decode cL_faults 233 = .ok (.iconst 1, 1) := by decide +kernel
theorem dL_faults_234 : decode cL_faults 234 = .ok (.iconst 0, 1) := by decide +kernel
theorem dL_faults_235 : decode cL_faults 235 = .ok (.invokevirtual 13, 3) := by decide +kernel
theorem dL_faults_238 : decode cL_faults 238 = .ok (.bipush 6, 2) := by decide +kernel
theorem dL_faults_240 : decode cL_faults 240 = .ok (.if_icmp .ne 101, 3) := by decide +kernel
theorem dL_faults_243 : decode cL_faults 243 = .ok (.aload_n 0, 1) := by decide +kernel
theorem dL_faults_244 : decode cL_faults 244 = .ok (.iconst 0, 1) := by decide +kernel
theorem dL_faults_245 : decode cL_faults 245 = .ok (.invokevirtual 16, 3) := by decide +kernel
theorem dL_faults_248 : decode cL_faults 248 = .ok (.iconst 3, 1) := by decide +kernel
theorem dL_faults_249 : decode cL_faults 249 = .ok (.if_icmp .ne 92, 3) := by decide +kernel
theorem dL_faults_252 : decode cL_faults 252 = .ok (.aload_n 0, 1) := by decide +kernel
theorem dL_faults_253 : decode cL_faults 253 = .ok (.iconst 5, 1) := by decide +kernel
theorem dL_faults_254 : decode cL_faults 254 = .ok (.invokevirtual 40, 3) := by decide +kernel
theorem dL_faults_257 : decode cL_faults 257 = .ok (.bipush 30, 2) := by decide +kernel
theorem dL_faults_259 : decode cL_faults 259 = .ok (.if_icmp .ne 82, 3) := by decide +kernel
theorem dL_faults_262 : decode cL_faults 262 = .ok (.aload_n 0, 1) := by decide +kernel
theorem dL_faults_263 : decode cL_faults 263 = .ok (.iconst 4, 1) := by decide +kernel
theorem dL_faults_264 : decode cL_faults 264 = .ok (.invokevirtual 40, 3) := by decide +kernel
theorem dL_faults_267 : decode cL_faults 267 = .ok (.iconst (-1), 1) := by decide +kernel
theorem dL_faults_268 : decode cL_faults 268 = .ok (.if_icmp .ne 73, 3) := by decide +kernel
theorem dL_faults_271 : decode cL_faults 271 = .ok (.aload_n 0, 1) := by decide +kernel
theorem dL_faults_272 : decode cL_faults 272 = .ok (.iconst 3, 1) := by decide +kernel
theorem dL_faults_273 : decode cL_faults 273 = .ok (.invokevirtual 20, 3) := by decide +kernel
theorem dL_faults_276 : decode cL_faults 276 = .ok (.iconst 2, 1) := by decide +kernel
theorem dL_faults_277 : decode cL_faults 277 = .ok (.if_icmp .ne 64, 3) := by decide +kernel
theorem dL_faults_280 : decode cL_faults 280 = .ok (.aload_n 0, 1) := by decide +kernel
theorem dL_faults_281 : decode cL_faults 281 = .ok (.iconst 4, 1) := by decide +kernel
theorem dL_faults_282 : decode cL_faults 282 = .ok (.invokevirtual 40, 3) := by decide +kernel
theorem dL_faults_285 : decode cL_faults 285 = .ok (.bipush 10, 2) := by decide +kernel
theorem dL_faults_287 : decode cL_faults 287 = .ok (.if_icmp .ne 54, 3) := by decide +kernel
theorem dL_faults_290 : decode cL_faults 290 = .ok (.aload_n 0, 1) := by decide +kernel
theorem dL_faults_291 : decode cL_faults 291 = .ok (.iconst 5, 1) := by decide +kernel
theorem dL_faults_292 : decode cL_faults 292 = .ok (.invokevirtual 40, 3) := by decide +kernel
theorem dL_faults_295 : decode cL_faults 295 = .ok (.iconst (-1), 1) := by decide +kernel
theorem dL_faults_296 : decode cL_faults 296 = .ok (.if_icmp .ne 45, 3) := by decide +kernel
theorem dL_faults_299 : decode cL_faults 299 = .ok (.aload_n 0, 1) := by decide +kernel
theorem dL_faults_300 : decode cL_faults 300 = .ok (.iconst 2, 1) := by decide +kernel
theorem dL_faults_301 : decode cL_faults 301 = .ok (.iconst 0, 1) := by decide +kernel
theorem dL_faults_302 : decode cL_faults 302 = .ok (.iconst 0, 1) := by decide +kernel
theorem dL_faults_303 : decode cL_faults 303 = .ok (.iconst 0, 1) := by decide +kernel
theorem dL_faults_304 : decode cL_faults 304 = .ok (.iconst 0, 1) := by decide +kernel
theorem dL_faults_305 : decode cL_faults 305 = .ok (.iconst 0, 1) := by decide +kernel
theorem dL_faults_306 : decode cL_faults 306 = .ok (.invokestatic 157, 3) := by decide +kernel
theorem dL_faults_309 : decode cL_faults 309 = .ok (.bipush (-73), 2) := by decide +kernel
theorem dL_faults_311 : decode cL_faults 311 = .ok (.if_icmp .ne 30, 3) := by decide +kernel
theorem dL_faults_314 : decode cL_faults 314 = .ok (.aload_n 0, 1) := by decide +kernel
theorem dL_faults_315 : decode cL_faults 315 = .ok (.iconst 3, 1) := by decide +kernel
theorem dL_faults_316 : decode cL_faults 316 = .ok (.iconst 0, 1) := by decide +kernel
theorem dL_faults_317 : decode cL_faults 317 = .ok (.iconst 0, 1) := by decide +kernel
theorem dL_faults_318 : decode cL_faults 318 = .ok (.iconst 0, 1) := by decide +kernel
theorem dL_faults_319 : decode cL_faults 319 = .ok (.iconst 0, 1) := by decide +kernel
theorem dL_faults_320 : decode cL_faults 320 = .ok (.iconst 0, 1) := by decide +kernel
theorem dL_faults_321 : decode cL_faults 321 = .ok (.invokestatic 157, 3) := by decide +kernel
theorem dL_faults_324 : decode cL_faults 324 = .ok (.bipush (-71), 2) := by decide +kernel
theorem dL_faults_326 : decode cL_faults 326 = .ok (.if_icmp .ne 15, 3) := by decide +kernel
theorem dL_faults_329 : decode cL_faults 329 = .ok (.aload_n 0, 1) := by decide +kernel
theorem dL_faults_330 : decode cL_faults 330 = .ok (.bipush 7, 2) := by decide +kernel
theorem dL_faults_332 : decode cL_faults 332 = .ok (.iconst 0, 1) := by decide +kernel
theorem dL_faults_333 : decode cL_faults 333 = .ok (.iconst 0, 1) := by decide +kernel
theorem dL_faults_334 : decode cL_faults 334 = .ok (.iconst 0, 1) := by decide +kernel
theorem dL_faults_335 : decode cL_faults 335 = .ok (.invokestatic 162, 3) := by decide +kernel
theorem dL_faults_338 : decode cL_faults 338 = .ok (.ifCond .ne 5, 3) := by decide +kernel
theorem dL_faults_341 : decode cL_faults 341 = .ok (.iconst 0, 1) := by decide +kernel
theorem dL_faults_342 : decode cL_faults 342 = .ok (.ireturn, 1) := by decide +kernel
theorem dL_faults_343 : decode cL_faults 343 = .ok (.new 8, 3) := by decide +kernel
theorem dL_faults_346 : decode cL_faults 346 = .ok (.dup, 1) := by decide +kernel
theorem dL_faults_347 : decode cL_faults 347 = .ok (.invokespecial 161, 3) := by decide +kernel
theorem dL_faults_350 : decode cL_faults 350 = .ok (.astore_n 1, 1) := by decide +kernel
theorem dL_faults_351 : decode cL_faults 351 = .ok (.aload_n 1, 1) := by decide +kernel
theorem dL_faults_352 : decode cL_faults 352 = .ok (.iconst 0, 1) := by decide +kernel
theorem dL_faults_353 : decode cL_faults 353 = .ok (.bipush 12, 2) := by decide +kernel
theorem dL_faults_355 : decode cL_faults 355 = .ok (.iconst 1, 1) := by decide +kernel
theorem dL_faults_356 : decode cL_faults 356 = .ok (.iconst 1, 1) := by decide +kernel
theorem dL_faults_357 : decode cL_faults 357 = .ok (.iconst 0, 1) := by decide +kernel
theorem dL_faults_358 : decode cL_faults 358 = .ok (.invokevirtual 13, 3) := by decide +kernel
theorem dL_faults_361 : decode cL_faults 361 = .ok (.ifCond .ne 120, 3) := by decide +kernel
theorem dL_faults_364 : decode cL_faults 364 = .ok (.aload_n 1, 1) := by decide +kernel
theorem dL_faults_365 : decode cL_faults 365 = .ok (.iconst 1, 1) := by decide +kernel
theorem dL_faults_366 : decode cL_faults 366 = .ok (.iconst 0, 1) := by decide +kernel
theorem dL_faults_367 : decode cL_faults 367 = .ok (.bipush 6, 2) := by decide +kernel
theorem dL_faults_369 : decode cL_faults 369 = .ok (.iconst 1, 1) := by decide +kernel
theorem dL_faults_370 : decode cL_faults 370 = .ok (.iconst 0, 1) := by decide +kernel
theorem dL_faults_371 : decode cL_faults 371 = .ok (.invokevirtual 13, 3) := by decide +kernel
theorem dL_faults_374 : decode cL_faults 374 = .ok (.iconst 1, 1) := by decide +kernel
theorem dL_faults_375 : decode cL_faults 375 = .ok (.if_icmp .ne 106, 3) := by decide +kernel
theorem dL_faults_378 : decode cL_faults 378 = .ok (.aload_n 1, 1) := by decide +kernel
theorem dL_faults_379 : decode cL_faults 379 = .ok (.iconst 1, 1) := by decide +kernel
theorem dL_faults_380 : decode cL_faults 380 = .ok (.invokevirtual 16, 3) := by decide +kernel
theorem dL_faults_383 : decode cL_faults 383 = .ok (.iconst 1, 1) := by decide +kernel
theorem dL_faults_384 : decode cL_faults 384 = .ok (.if_icmp .ne 97, 3) := by decide +kernel
theorem dL_faults_387 : decode cL_faults 387 = .ok (.aload_n 1, 1) := by decide +kernel
theorem dL_faults_388 : decode cL_faults 388 = .ok (.iconst 0, 1) := by decide +kernel
theorem dL_faults_389 : decode cL_faults 389 = .ok (.invokevirtual 16, 3) := by decide +kernel
theorem dL_faults_392 : decode cL_faults 392 = .ok (.iconst 1, 1) := by decide +kernel
theorem dL_faults_393 : decode cL_faults 393 = .ok (.if_icmp .ne 88, 3) := by decide +kernel
theorem dL_faults_396 : decode cL_faults 396 = .ok (.aload_n 1, 1) := by decide +kernel
theorem dL_faults_397 : decode cL_faults 397 = .ok (.iconst 0, 1) := by decide +kernel
theorem dL_faults_398 : decode cL_faults 398 = .ok (.invokevirtual 16, 3) := by decide +kernel
theorem dL_faults_401 : decode cL_faults 401 = .ok (.iconst 2, 1) := by decide +kernel
theorem dL_faults_402 : decode cL_faults 402 = .ok (.if_icmp .ne 79, 3) := by decide +kernel
theorem dL_faults_405 : decode cL_faults 405 = .ok (.aload_n 1, 1) := by decide +kernel
theorem dL_faults_406 : decode cL_faults 406 = .ok (.iconst 0, 1) := by decide +kernel
theorem dL_faults_407 : decode cL_faults 407 = .ok (.bipush 12, 2) := by decide +kernel
theorem dL_faults_409 : decode cL_faults 409 = .ok (.iconst 0, 1) := by decide +kernel
theorem dL_faults_410 : decode cL_faults 410 = .ok (.iconst 1, 1) := by decide +kernel
theorem dL_faults_411 : decode cL_faults 411 = .ok (.iconst 0, 1) := by decide +kernel
theorem dL_faults_412 : decode cL_faults 412 = .ok (.invokevirtual 7, 3) := by decide +kernel
theorem dL_faults_415 : decode cL_faults 415 = .ok (.iconst 2, 1) := by decide +kernel
theorem dL_faults_416 : decode cL_faults 416 = .ok (.if_icmp .ne 65, 3) := by decide +kernel
theorem dL_faults_419 : decode cL_faults 419 = .ok (.aload_n 1, 1) := by decide +kernel
theorem dL_faults_420 : decode cL_faults 420 = .ok (.bipush 6, 2) := by decide +kernel
theorem dL_faults_422 : decode cL_faults 422 = .ok (.invokevirtual 40, 3) := by decide +kernel
theorem dL_faults_425 : decode cL_faults 425 = .ok (.iconst 1, 1) := by decide +kernel
theorem dL_faults_426 : decode cL_faults 426 = .ok (.if_icmp .ne 55, 3) := by decide +kernel
theorem dL_faults_429 : decode cL_faults 429 = .ok (.aload_n 1, 1) := by decide +kernel
theorem dL_faults_430 : decode cL_faults 430 = .ok (.iconst 0, 1) := by decide +kernel
theorem dL_faults_431 : decode cL_faults 431 = .ok (.bipush 12, 2) := by decide +kernel
theorem dL_faults_433 : decode cL_faults 433 = .ok (.iconst 0, 1) := by decide +kernel
theorem dL_faults_434 : decode cL_faults 434 = .ok (.iconst 2, 1) := by decide +kernel
theorem dL_faults_435 : decode cL_faults 435 = .ok (.iconst 0, 1) := by decide +kernel
theorem dL_faults_436 : decode cL_faults 436 = .ok (.invokevirtual 7, 3) := by decide +kernel
theorem dL_faults_439 : decode cL_faults 439 = .ok (.iconst 3, 1) := by decide +kernel
theorem dL_faults_440 : decode cL_faults 440 = .ok (.if_icmp .ne 41, 3) := by decide +kernel
theorem dL_faults_443 : decode cL_faults 443 = .ok (.aload_n 1, 1) := by decide +kernel
theorem dL_faults_444 : decode cL_faults 444 = .ok (.iconst 0, 1) := by decide +kernel
theorem dL_faults_445 : decode cL_faults 445 = .ok (.invokevirtual 37, 3) := by decide +kernel
theorem dL_faults_448 : decode cL_faults 448 = .ok (.iconst (-1), 1) := by decide +kernel
theorem dL_faults_449 : decode cL_faults 449 = .ok (.if_icmp .ne 32, 3) := by decide +kernel
theorem dL_faults_452 : decode cL_faults 452 = .ok (.aload_n 1, 1) := by decide +kernel
theorem dL_faults_453 : decode cL_faults 453 = .ok (.bipush 6, 2) := by decide +kernel
theorem dL_faults_455 : decode cL_faults 455 = .ok (.invokevirtual 40, 3) := by decide +kernel
theorem dL_faults_458 : decode cL_faults 458 = .ok (.iconst 1, 1) := by decide +kernel
theorem dL_faults_459 : decode cL_faults 459 = .ok (.if_icmp .ne 22, 3) := by decide +kernel
theorem dL_faults_462 : decode cL_faults 462 = .ok (.aload_n 1, 1) := by decide +kernel
theorem dL_faults_463 : decode cL_faults 463 = .ok (.iconst 2, 1) := by decide +kernel
theorem dL_faults_464 : decode cL_faults 464 = .ok (.invokevirtual 20, 3) := by decide +kernel
theorem dL_faults_467 : decode cL_faults 467 = .ok (.iconst 1, 1) := by decide +kernel
theorem dL_faults_468 : decode cL_faults 468 = .ok (.if_icmp .ne 13, 3) := by decide +kernel
theorem dL_faults_471 : decode cL_faults 471 = .ok (.aload_n 1, 1) := by decide +kernel
theorem dL_faults_472 : decode cL_faults 472 = .ok (.bipush 6, 2) := by decide +kernel
theorem dL_faults_474 : decode cL_faults 474 = .ok (.invokevirtual 40, 3) := by decide +kernel
theorem dL_faults_477 : decode cL_faults 477 = .ok (.iconst (-1), 1) := by decide +kernel
theorem dL_faults_478 : decode cL_faults 478 = .ok (.if_icmp .eq 5, 3) := by decide +kernel
theorem dL_faults_481 : decode cL_faults 481 = .ok (.iconst 0, 1) := by decide +kernel
theorem dL_faults_482 : decode cL_faults 482 = .ok (.ireturn, 1) := by decide +kernel
theorem dL_faults_483 : decode cL_faults 483 = .ok (.new 8, 3) := by decide +kernel
theorem dL_faults_486 : decode cL_faults 486 = .ok (.dup, 1) := by decide +kernel
theorem dL_faults_487 : decode cL_faults 487 = .ok (.invokespecial 161, 3) := by decide +kernel
theorem dL_faults_490 : decode cL_faults 490 = .ok (.astore_n 2, 1) := by decide +kernel
theorem dL_faults_491 : decode cL_faults 491 = .ok (.aload_n 2, 1) := by decide +kernel
theorem dL_faults_492 : decode cL_faults 492 = .ok (.iconst 0, 1) := by decide +kernel
theorem dL_faults_493 : decode cL_faults 493 = .ok (.iconst 0, 1) := by decide +kernel
theorem dL_faults_494 : decode cL_faults 494 = .ok (.iconst 0, 1) := by decide +kernel
theorem dL_faults_495 : decode cL_faults 495 = .ok (.iconst 1, 1) := by decide +kernel
theorem dL_faults_496 : decode cL_faults 496 = .ok (.iconst 0, 1) := by decide +kernel
theorem dL_faults_497 : decode cL_faults 497 = .ok (.invokevirtual 7, 3) := by decide +kernel
theorem dL_faults_500 : decode cL_faults 500 = .ok (.ifCond .ne 377, 3) := by decide +kernel
theorem dL_faults_503 : decode cL_faults 503 = .ok (.aload_n 2, 1) := by decide +kernel
theorem dL_faults_504 : decode cL_faults 504 = .ok (.iconst 1, 1) := by decide +kernel
theorem dL_faults_505 : decode cL_faults 505 = .ok (.iconst 5, 1) := by decide +kernel
theorem dL_faults_506 : decode cL_faults 506 = .ok (.iconst 1, 1) := by decide +kernel
theorem dL_faults_507 : decode cL_faults 507 = .ok (.iconst 2, 1) := by decide +kernel
theorem dL_faults_508 : decode cL_faults 508 = .ok (.iconst 0, 1) := by decide +kernel
theorem dL_faults_509 : decode cL_faults 509 = .ok (.invokevirtual 7, 3) := by decide +kernel
theorem dL_faults_512 : decode cL_faults 512 = .ok (.iconst 1, 1) := by decide +kernel
theorem dL_faults_513 : decode cL_faults 513 = .ok (.if_icmp .ne 364, 3) := by decide +kernel
theorem dL_faults_516 : decode cL_faults 516 = .ok (.aload_n 2, 1) := by decide +kernel
theorem dL_faults_517 : decode cL_faults 517 = .ok (.iconst 2, 1) := by decide +kernel
theorem dL_faults_518 : decode cL_faults 518 = .ok (.bipush 8, 2) := by decide +kernel
theorem dL_faults_520 : decode cL_faults 520 = .ok (.iconst 0, 1) := by decide +kernel
theorem dL_faults_521 : decode cL_faults 521 = .ok (.iconst 0, 1) := by decide +kernel
theorem dL_faults_522 : decode cL_faults 522 = .ok (.iconst 0, 1) := by decide +kernel
theorem dL_faults_523 : decode cL_faults 523 = .ok (.invokevirtual 7, 3) := by decide +kernel
theorem dL_faults_526 : decode cL_faults 526 = .ok (.iconst 2, 1) := by decide +kernel
theorem dL_faults_527 : decode cL_faults 527 = .ok (.if_icmp .ne 350, 3) := by decide +kernel
theorem dL_faults_530 : decode cL_faults 530 = .ok (.aload_n 2, 1) := by decide +kernel
theorem dL_faults_531 : decode cL_faults 531 = .ok (.iconst 0, 1) := by decide +kernel
theorem dL_faults_532 : decode cL_faults 532 = .ok (.invokevirtual 37, 3) := by decide +kernel
theorem dL_faults_535 : decode cL_faults 535 = .ok (.ifCond .ne 342, 3) := by decide +kernel
theorem dL_faults_538 : decode cL_faults 538 = .ok (.aload_n 2, 1) := by decide +kernel
theorem dL_faults_539 : decode cL_faults 539 = .ok (.iconst 2, 1) := by decide +kernel
theorem dL_faults_540 : decode cL_faults 540 = .ok (.bipush 9, 2) := by decide +kernel
theorem dL_faults_542 : decode cL_faults 542 = .ok (.bipush 7, 2) := by decide +kernel
theorem dL_faults_544 : decode cL_faults 544 = .ok (.iconst 0, 1) := by decide +kernel
theorem dL_faults_545 : decode cL_faults 545 = .ok (.iconst 0, 1) := by decide +kernel
theorem dL_faults_546 : decode cL_faults 546 = .ok (.invokevirtual 7, 3) := by decide +kernel
