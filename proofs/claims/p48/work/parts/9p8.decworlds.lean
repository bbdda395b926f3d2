theorem dL_worlds_0 : decode cL_worlds 0 = .ok (.new 8, 3) := by decide +kernel
theorem dL_worlds_3 : decode cL_worlds 3 = .ok (.dup, 1) := by decide +kernel
theorem dL_worlds_4 : decode cL_worlds 4 = .ok (.invokespecial 161, 3) := by decide +kernel
theorem dL_worlds_7 : decode cL_worlds 7 = .ok (.astore_n 0, 1) := by decide +kernel
theorem dL_worlds_8 : decode cL_worlds 8 = .ok (.bipush (-73), 2) := by decide +kernel
theorem dL_worlds_10 : decode cL_worlds 10 = .ok (.istore_n 1, 1) := by decide +kernel
theorem dL_worlds_11 : decode cL_worlds 11 = .ok (.aload_n 0, 1) := by decide +kernel
theorem dL_worlds_12 : decode cL_worlds 12 = .ok (.iconst 0, 1) := by decide +kernel
theorem dL_worlds_13 : decode cL_worlds 13 = .ok (.iconst 0, 1) := by decide +kernel
theorem dL_worlds_14 : decode cL_worlds 14 = .ok (.iconst 2, 1) := by decide +kernel
theorem dL_worlds_15 : decode cL_worlds 15 = .ok (.iconst 0, 1) := by decide +kernel
theorem dL_worlds_16 : decode cL_worlds 16 = .ok (.iconst 0, 1) := by decide +kernel
theorem dL_worlds_17 : decode cL_worlds 17 = .ok (.iconst 1, 1) := by decide +kernel
theorem dL_worlds_18 : decode cL_worlds 18 = .ok (.invokevirtual 91, 3) := by decide +kernel
theorem dL_worlds_21 : decode cL_worlds 21 = .ok (.aload_n 0, 1) := by decide +kernel
theorem dL_worlds_22 : decode cL_worlds 22 = .ok (.iconst 1, 1) := by decide +kernel
theorem dL_worlds_23 : decode cL_worlds 23 = .ok (.iconst 1, 1) := by decide +kernel
theorem dL_worlds_24 : decode cL_worlds 24 = .ok (.iconst 4, 1) := by decide +kernel
theorem dL_worlds_25 : decode cL_worlds 25 = .ok (.iconst 0, 1) := by decide +kernel
theorem dL_worlds_26 : decode cL_worlds 26 = .ok (.iconst 1, 1) := by decide +kernel
theorem dL_worlds_27 : decode cL_worlds 27 = .ok (.iconst 0, 1) := by decide +kernel
theorem dL_worlds_28 : decode cL_worlds 28 = .ok (.invokevirtual 91, 3) := by decide +kernel
theorem dL_worlds_31 : decode cL_worlds 31 = .ok (.aload_n 0, 1) := by decide +kernel
theorem dL_worlds_32 : decode cL_worlds 32 = .ok (.iconst 0, 1) := by decide +kernel
theorem dL_worlds_33 : decode cL_worlds 33 = .ok (.invokevirtual 61, 3) := by decide +kernel
theorem dL_worlds_36 : decode cL_worlds 36 = .ok (.ifCond .ne 412, 3) := by decide +kernel
theorem dL_worlds_39 : decode cL_worlds 39 = .ok (.aload_n 0, 1) := by decide +kernel
theorem dL_worlds_40 : decode cL_worlds 40 = .ok (.iconst 1, 1) := by decide +kernel
theorem dL_worlds_41 : decode cL_worlds 41 = .ok (.invokevirtual 61, 3) := by decide +kernel
theorem dL_worlds_44 : decode cL_worlds 44 = .ok (.iconst 1, 1) := by decide +kernel
theorem dL_worlds_45 : decode cL_worlds 45 = .ok (.if_icmp .ne 403, 3) := by decide +kernel
theorem dL_worlds_48 : decode cL_worlds 48 = .ok (.aload_n 0, 1) := by decide +kernel
theorem dL_worlds_49 : decode cL_worlds 49 = .ok (.iconst 0, 1) := by decide +kernel
theorem dL_worlds_50 : decode cL_worlds 50 = .ok (.iconst 0, 1) := by decide +kernel
theorem dL_worlds_51 : decode cL_worlds 51 = .ok (.iconst 2, 1) := by decide +kernel
theorem dL_worlds_52 : decode cL_worlds 52 = .ok (.invokevirtual 64, 3) := by decide +kernel
theorem dL_worlds_55 : decode cL_worlds 55 = .ok (.iconst 1, 1) := by decide +kernel
theorem dL_worlds_56 : decode cL_worlds 56 = .ok (.if_icmp .ne 392, 3) := by decide +kernel
theorem dL_worlds_59 : decode cL_worlds 59 = .ok (.aload_n 0, 1) := by decide +kernel
theorem dL_worlds_60 : decode cL_worlds 60 = .ok (.iconst 1, 1) := by decide +kernel
theorem dL_worlds_61 : decode cL_worlds 61 = .ok (.iconst 0, 1) := by decide +kernel
theorem dL_worlds_62 : decode cL_worlds 62 = .ok (.iconst 2, 1) := by decide +kernel
theorem dL_worlds_63 : decode cL_worlds 63 = .ok (.invokevirtual 64, 3) := by decide +kernel
theorem dL_worlds_66 : decode cL_worlds 66 = .ok (.iconst 1, 1) := by decide +kernel
theorem dL_worlds_67 : decode cL_worlds 67 = .ok (.if_icmp .ne 381, 3) := by decide +kernel
theorem dL_worlds_70 : decode cL_worlds 70 = .ok (.aload_n 0, 1) := by decide +kernel
theorem dL_worlds_71 : decode cL_worlds 71 = .ok (.iconst 0, 1) := by decide +kernel
theorem dL_worlds_72 : decode cL_worlds 72 = .ok (.iconst 0, 1) := by decide +kernel
theorem dL_worlds_73 : decode cL_worlds 73 = .ok (.iconst 0, 1) := by decide +kernel
theorem dL_worlds_74 : decode cL_worlds 74 = .ok (.invokevirtual 70, 3) := by decide +kernel
theorem dL_worlds_77 : decode cL_worlds 77 = .ok (.iconst (-1), 1) := by decide +kernel
theorem dL_worlds_78 : decode cL_worlds 78 = .ok (.if_icmp .ne 370, 3) := by decide +kernel
theorem dL_worlds_81 : decode cL_worlds 81 = .ok (.aload_n 0, 1) := by decide +kernel
theorem dL_worlds_82 : decode cL_worlds 82 = .ok (.bipush 18, 2) := by decide +kernel
theorem dL_worlds_84 : decode cL_worlds 84 = .ok (.iconst 0, 1) := by decide +kernel
theorem dL_worlds_85 : decode cL_worlds 85 = .ok (.iconst 0, 1) := by decide +kernel
theorem dL_worlds_86 : decode cL_worlds 86 = .ok (.bipush 10, 2) := by decide +kernel
theorem dL_worlds_88 : decode cL_worlds 88 = .ok (.iconst 0, 1) := by decide +kernel
theorem dL_worlds_89 : decode cL_worlds 89 = .ok (.iconst 0, 1) := by decide +kernel
theorem dL_worlds_90 : decode cL_worlds 90 = .ok (.invokestatic 157, 3) := by decide +kernel
theorem dL_worlds_93 : decode cL_worlds 93 = .ok (.bipush (-71), 2) := by decide +kernel
theorem dL_worlds_95 : decode cL_worlds 95 = .ok (.if_icmp .ne 353, 3) := by decide +kernel
theorem dL_worlds_98 : decode cL_worlds 98 = .ok (.aload_n 0, 1) := by decide +kernel
theorem dL_worlds_99 : decode cL_worlds 99 = .ok (.bipush 18, 2) := by decide +kernel
theorem dL_worlds_101 : decode cL_worlds 101 = .ok (.iconst 1, 1) := by decide +kernel
theorem dL_worlds_102 : decode cL_worlds 102 = .ok (.iconst 2, 1) := by decide +kernel
theorem dL_worlds_103 : decode cL_worlds 103 = .ok (.bipush 10, 2) := by decide +kernel
theorem dL_worlds_105 : decode cL_worlds 105 = .ok (.iconst 0, 1) := by decide +kernel
theorem dL_worlds_106 : decode cL_worlds 106 = .ok (.iconst 0, 1) := by decide +kernel
theorem dL_worlds_107 : decode cL_worlds 107 = .ok (.invokestatic 157, 3) := by decide +kernel
theorem dL_worlds_110 : decode cL_worlds 110 = .ok (.iload_n 1, 1) := by decide +kernel
theorem dL_worlds_111 : decode cL_worlds 111 = .ok (.if_icmp .ne 337, 3) := by decide +kernel
theorem dL_worlds_114 : decode cL_worlds 114 = .ok (.aload_n 0, 1) := by decide +kernel
theorem dL_worlds_115 : decode cL_worlds 115 = .ok (.bipush 18, 2) := by decide +kernel
theorem dL_worlds_117 : decode cL_worlds 117 = .ok (.iconst 1, 1) := by decide +kernel
theorem dL_worlds_118 : decode cL_worlds 118 = .ok (.iconst 2, 1) := by decide +kernel
theorem dL_worlds_119 : decode cL_worlds 119 = .ok (.bipush 13, 2) := by decide +kernel
theorem dL_worlds_121 : decode cL_worlds 121 = .ok (.iconst 0, 1) := by decide +kernel
theorem dL_worlds_122 : decode cL_worlds 122 = .ok (.iconst 0, 1) := by decide +kernel
theorem dL_worlds_123 : decode cL_worlds 123 = .ok (.invokestatic 157, 3) := by decide +kernel
theorem dL_worlds_126 : decode cL_worlds 126 = .ok (.bipush (-71), 2) := by decide +kernel
theorem dL_worlds_128 : decode cL_worlds 128 = .ok (.if_icmp .ne 320, 3) := by decide +kernel
theorem dL_worlds_131 : decode cL_worlds 131 = .ok (.aload_n 0, 1) := by decide +kernel
theorem dL_worlds_132 : decode cL_worlds 132 = .ok (.iconst 1, 1) := by decide +kernel
theorem dL_worlds_133 : decode cL_worlds 133 = .ok (.iconst 0, 1) := by decide +kernel
theorem dL_worlds_134 : decode cL_worlds 134 = .ok (.bipush 11, 2) := by decide +kernel
theorem dL_worlds_136 : decode cL_worlds 136 = .ok (.invokevirtual 70, 3) := by decide +kernel
theorem dL_worlds_139 : decode cL_worlds 139 = .ok (.iconst (-1), 1) := by decide +kernel
theorem dL_worlds_140 : decode cL_worlds 140 = .ok (.if_icmp .ne 308, 3) := by decide +kernel
theorem dL_worlds_143 : decode cL_worlds 143 = .ok (.aload_n 0, 1) := by decide +kernel
theorem dL_worlds_144 : decode cL_worlds 144 = .ok (.iconst 1, 1) := by decide +kernel
theorem dL_worlds_145 : decode cL_worlds 145 = .ok (.iconst 1, 1) := by decide +kernel
theorem dL_worlds_146 : decode cL_worlds 146 = .ok (.iconst 1, 1) := by decide +kernel
theorem dL_worlds_147 : decode cL_worlds 147 = .ok (.invokevirtual 70, 3) := by decide +kernel
theorem dL_worlds_150 : decode cL_worlds 150 = .ok (.iconst (-1), 1) := by decide +kernel
theorem dL_worlds_151 : decode cL_worlds 151 = .ok (.if_icmp .ne 297, 3) := by decide +kernel
theorem dL_worlds_154 : decode cL_worlds 154 = .ok (.aload_n 0, 1) := by decide +kernel
theorem dL_worlds_155 : decode cL_worlds 155 = .ok (.iconst 0, 1) := by decide +kernel
theorem dL_worlds_156 : decode cL_worlds 156 = .ok (.iconst 0, 1) := by decide +kernel
theorem dL_worlds_157 : decode cL_worlds 157 = .ok (.iconst 0, 1) := by decide +kernel
theorem dL_worlds_158 : decode cL_worlds 158 = .ok (.bipush 20, 2) := by decide +kernel
theorem dL_worlds_160 : decode cL_worlds 160 = .ok (.iconst 0, 1) := by decide +kernel
theorem dL_worlds_161 : decode cL_worlds 161 = .ok (.invokevirtual 7, 3) := by decide +kernel
theorem dL_worlds_164 : decode cL_worlds 164 = .ok (.ifCond .ne 284, 3) := by decide +kernel
theorem dL_worlds_167 : decode cL_worlds 167 = .ok (.aload_n 0, 1) := by decide +kernel
theorem dL_worlds_168 : decode cL_worlds 168 = .ok (.iconst 0, 1) := by decide +kernel
theorem dL_worlds_169 : decode cL_worlds 169 = .ok (.bipush 11, 2) := by decide +kernel
theorem dL_worlds_171 : decode cL_worlds 171 = .ok (.iconst 1, 1) := by decide +kernel
theorem dL_worlds_172 : decode cL_worlds 172 = .ok (.iconst 0, 1) := by decide +kernel
theorem dL_worlds_173 : decode cL_worlds 173 = .ok (.iconst 0, 1) := by decide +kernel
theorem dL_worlds_174 : decode cL_worlds 174 = .ok (.invokevirtual 7, 3) := by decide +kernel
theorem dL_worlds_177 : decode cL_worlds 177 = .ok (.iconst 1, 1) := by decide +kernel
theorem dL_worlds_178 : decode cL_worlds 178 = .ok (.if_icmp .ne 270, 3) := by decide +kernel
theorem dL_worlds_181 : decode cL_worlds 181 = .ok (.aload_n 0, 1) := by decide +kernel
theorem dL_worlds_182 : decode cL_worlds 182 = .ok (.iconst 0, 1) := by decide +kernel
theorem dL_worlds_183 : decode cL_worlds 183 = .ok (.iconst 0, 1) := by decide +kernel
theorem dL_worlds_184 : decode cL_worlds 184 = .ok (.iconst 1, 1) := by decide +kernel
theorem dL_worlds_185 : decode cL_worlds 185 = .ok (.bipush 9, 2) := by decide +kernel
theorem dL_worlds_187 : decode cL_worlds 187 = .ok (.iconst 0, 1) := by decide +kernel
theorem dL_worlds_188 : decode cL_worlds 188 = .ok (.invokevirtual 7, 3) := by decide +kernel
theorem dL_worlds_191 : decode cL_worlds 191 = .ok (.iconst 2, 1) := by decide +kernel
theorem dL_worlds_192 : decode cL_worlds 192 = .ok (.if_icmp .ne 256, 3) := by decide +kernel
theorem dL_worlds_195 : decode cL_worlds 195 = .ok (.aload_n 0, 1) := by decide +kernel
theorem dL_worlds_196 : decode cL_worlds 196 = .ok (.invokevirtual 174, 3) := by decide +kernel
theorem dL_worlds_199 : decode cL_worlds 199 = .ok (.iconst 2, 1) := by decide +kernel
theorem dL_worlds_200 : decode cL_worlds 200 = .ok (.if_icmp .ne 248, 3) := by decide +kernel
theorem dL_worlds_203 : decode cL_worlds 203 = .ok (.aload_n 0, 1) := by decide +kernel
theorem dL_worlds_204 : decode cL_worlds 204 = .ok (.bipush 18, 2) := by decide +kernel
theorem dL_worlds_206 : decode cL_worlds 206 = .ok (.iconst 0, 1) := by decide +kernel
theorem dL_worlds_207 : decode cL_worlds 207 = .ok (.invokevirtual 76, 3) := by decide +kernel
theorem dL_worlds_210 : decode cL_worlds 210 = .ok (.iconst (-1), 1) := by decide +kernel
theorem dL_worlds_211 : decode cL_worlds 211 = .ok (.if_icmp .ne 237, 3) := by decide +kernel
theorem dL_worlds_214 : decode cL_worlds 214 = .ok (.aload_n 0, 1) := by decide +kernel
theorem dL_worlds_215 : decode cL_worlds 215 = .ok (.bipush 18, 2) := by decide +kernel
theorem dL_worlds_217 : decode cL_worlds 217 = .ok (.iconst 1, 1) := by decide +kernel
theorem dL_worlds_218 : decode cL_worlds 218 = .ok (.invokevirtual 76, 3) := by decide +kernel
theorem dL_worlds_221 : decode cL_worlds 221 = .ok (.bipush 9, 2) := by decide +kernel
theorem dL_worlds_223 : decode cL_worlds 223 = .ok (.if_icmp .ne 225, 3) := by decide +kernel
theorem dL_worlds_226 : decode cL_worlds 226 = .ok (.aload_n 0, 1) := by decide +kernel
theorem dL_worlds_227 : decode cL_worlds 227 = .ok (.invokevirtual 149, 3) := by decide +kernel
theorem dL_worlds_230 : decode cL_worlds 230 = .ok (.iconst 2, 1) := by decide +kernel
theorem dL_worlds_231 : decode cL_worlds 231 = .ok (.if_icmp .ne 217, 3) := by decide +kernel
theorem dL_worlds_234 : decode cL_worlds 234 = .ok (.aload_n 0, 1) := by decide +kernel
theorem dL_worlds_235 : decode cL_worlds 235 = .ok (.iconst 0, 1) := by decide +kernel
theorem dL_worlds_236 : decode cL_worlds 236 = .ok (.iconst 2, 1) := by decide +kernel
theorem dL_worlds_237 : decode cL_worlds 237 = .ok (.iconst 1, 1) := by decide +kernel
theorem dL_worlds_238 : decode cL_worlds 238 = .ok (.invokevirtual 70, 3) := by decide +kernel
theorem dL_worlds_241 : decode cL_worlds 241 = .ok (.iconst (-1), 1) := by decide +kernel
theorem dL_worlds_242 : decode cL_worlds 242 = .ok (.if_icmp .ne 206, 3) := by decide +kernel
theorem dL_worlds_245 : decode cL_worlds 245 = .ok (.aload_n 0, 1) := by decide +kernel
theorem dL_worlds_246 : decode cL_worlds 246 = .ok (.invokevirtual 149, 3) := by decide +kernel
theorem dL_worlds_249 : decode cL_worlds 249 = .ok (.iconst (-1), 1) := by decide +kernel
theorem dL_worlds_250 : decode cL_worlds 250 = .ok (.if_icmp .ne 198, 3) := by decide +kernel
theorem dL_worlds_253 : decode cL_worlds 253 = .ok (.aload_n 0, 1) := by decide +kernel
theorem dL_worlds_254 : decode cL_worlds 254 = .ok (.iconst 0, 1) := by decide +kernel
theorem dL_worlds_255 : decode cL_worlds 255 = .ok (.iconst 2, 1) := by decide +kernel
theorem dL_worlds_256 : decode cL_worlds 256 = .ok (.iconst (-1), 1) := by decide +kernel
theorem dL_worlds_257 : decode cL_worlds 257 = .ok (.invokevirtual 70, 3) := by decide +kernel
theorem dL_worlds_260 : decode cL_worlds 260 = .ok (.iconst 1, 1) := by decide +kernel
theorem dL_worlds_261 : decode cL_worlds 261 = .ok (.if_icmp .ne 187, 3) := by decide +kernel
theorem dL_worlds_264 : decode cL_worlds 264 = .ok (.aload_n 0, 1) := by decide +kernel
theorem dL_worlds_265 : decode cL_worlds 265 = .ok (.iconst 1, 1) := by decide +kernel
theorem dL_worlds_266 : decode cL_worlds 266 = .ok (.iconst 1, 1) := by decide +kernel
theorem dL_worlds_267 : decode cL_worlds 267 = .ok (.iconst 5, 1) := by decide +kernel
theorem dL_worlds_268 : decode cL_worlds 268 = .ok (.invokevirtual 64, 3) := by decide +kernel
theorem dL_worlds_271 : decode cL_worlds 271 = .ok (.iconst 2, 1) := by decide +kernel
theorem dL_worlds_272 : decode cL_worlds 272 = .ok (.if_icmp .ne 176, 3) := by decide +kernel
theorem dL_worlds_275 : decode cL_worlds 275 = .ok (.aload_n 0, 1) := by decide +kernel
theorem dL_worlds_276 : decode cL_worlds 276 = .ok (.invokevirtual 149, 3) := by decide +kernel
theorem dL_worlds_279 : decode cL_worlds 279 = .ok (.iconst (-1), 1) := by decide +kernel
theorem dL_worlds_280 : decode cL_worlds 280 = .ok (.if_icmp .ne 168, 3) := by decide +kernel
theorem dL_worlds_283 : decode cL_worlds 283 = .ok (.aload_n 0, 1) := by decide +kernel
theorem dL_worlds_284 : decode cL_worlds 284 = .ok (.iconst 1, 1) := by decide +kernel
theorem dL_worlds_285 : decode cL_worlds 285 = .ok (.iconst 1, 1) := by decide +kernel
theorem dL_worlds_286 : decode cL_worlds 286 = .ok (.invokevirtual 67, 3) := by decide +kernel
theorem dL_worlds_289 : decode cL_worlds 289 = .ok (.iconst 5, 1) := by decide +kernel
theorem dL_worlds_290 : decode cL_worlds 290 = .ok (.if_icmp .ne 158, 3) := by decide +kernel
theorem dL_worlds_293 : decode cL_worlds 293 = .ok (.aload_n 0, 1) := by decide +kernel
theorem dL_worlds_294 : decode cL_worlds 294 = .ok (.iconst 0, 1) := by decide +kernel
theorem dL_worlds_295 : decode cL_worlds 295 = .ok (.invokestatic 198, 3) := by decide +kernel
theorem dL_worlds_298 : decode cL_worlds 298 = .ok (.iconst 2, 1) := by decide +kernel
theorem dL_worlds_299 : decode cL_worlds 299 = .ok (.if_icmp .ne 149, 3) := by decide +kernel
theorem dL_worlds_302 : decode cL_worlds 302 = .ok (.aload_n 0, 1) := by decide +kernel
theorem dL_worlds_303 : decode cL_worlds 303 = .ok (.iconst 0, 1) := by decide +kernel
theorem dL_worlds_304 : decode cL_worlds 304 = .ok (.iconst 0, 1) := by decide +kernel
theorem dL_worlds_305 : decode cL_worlds 305 = .ok (.invokevirtual 95, 3) := by decide +kernel
theorem dL_worlds_308 : decode cL_worlds 308 = .ok (.bipush 102, 2) := by decide +kernel
theorem dL_worlds_310 : decode cL_worlds 310 = .ok (.if_icmp .ne 138, 3) := by decide +kernel
theorem dL_worlds_313 : decode cL_worlds 313 = .ok (.aload_n 0, 1) := by decide +kernel
theorem dL_worlds_314 : decode cL_worlds 314 = .ok (.iconst 0, 1) := by decide +kernel
theorem dL_worlds_315 : decode cL_worlds 315 = .ok (.iconst 1, 1) := by decide +kernel
theorem dL_worlds_316 : decode cL_worlds 316 = .ok (.invokevirtual 95, 3) := by decide +kernel
theorem dL_worlds_319 : decode cL_worlds 319 = .ok (.bipush 118, 2) := by decide +kernel
theorem dL_worlds_321 : decode cL_worlds 321 = .ok (.if_icmp .ne 127, 3) := by decide +kernel
theorem dL_worlds_324 : decode cL_worlds 324 = .ok (.aload_n 0, 1) := by decide +kernel
theorem dL_worlds_325 : decode cL_worlds 325 = .ok (.iconst 0, 1) := by decide +kernel
theorem dL_worlds_326 : decode cL_worlds 326 = .ok (.invokevirtual 112, 3) := by decide +kernel
theorem dL_worlds_329 : decode cL_worlds 329 = .ok (.bipush 102, 2) := by decide +kernel
theorem dL_worlds_331 : decode cL_worlds 331 = .ok (.if_icmp .ne 117, 3) := by decide +kernel
theorem dL_worlds_334 : decode cL_worlds 334 = .ok (.aload_n 0, 1) := by decide +kernel
theorem dL_worlds_335 : decode cL_worlds 335 = .ok (.iconst 0, 1) := by decide +kernel
theorem dL_worlds_336 : decode cL_worlds 336 = .ok (.bipush 20, 2) := by decide +kernel
theorem dL_worlds_338 : decode cL_worlds 338 = .ok (.iconst 2, 1) := by decide +kernel
theorem dL_worlds_339 : decode cL_worlds 339 = .ok (.iconst 0, 1) := by decide +kernel
theorem dL_worlds_340 : decode cL_worlds 340 = .ok (.invokestatic 195, 3) := by decide +kernel
theorem dL_worlds_343 : decode cL_worlds 343 = .ok (.ifCond .eq 105, 3) := by decide +kernel
theorem dL_worlds_346 : decode cL_worlds 346 = .ok (.aload_n 0, 1) := by decide +kernel
theorem dL_worlds_347 : decode cL_worlds 347 = .ok (.bipush 18, 2) := by decide +kernel
theorem dL_worlds_349 : decode cL_worlds 349 = .ok (.iconst 0, 1) := by decide +kernel
theorem dL_worlds_350 : decode cL_worlds 350 = .ok (.invokevirtual 76, 3) := by decide +kernel
theorem dL_worlds_353 : decode cL_worlds 353 = .ok (.iconst 2, 1) := by decide +kernel
theorem dL_worlds_354 : decode cL_worlds 354 = .ok (.if_icmp .ne 94, 3) := by decide +kernel
theorem dL_worlds_357 : decode cL_worlds 357 = .ok (.aload_n 0, 1) := by decide +kernel
theorem dL_worlds_358 : decode cL_worlds 358 = .ok (.iconst 0, 1) := by decide +kernel
theorem dL_worlds_359 : decode cL_worlds 359 = .ok (.invokevirtual 112, 3) := by decide +kernel
theorem dL_worlds_362 : decode cL_worlds 362 = .ok (.bipush 118, 2) := by decide +kernel
theorem dL_worlds_364 : decode cL_worlds 364 = .ok (.if_icmp .ne 84, 3) := by decide +kernel
theorem dL_worlds_367 : decode cL_worlds 367 = .ok (.aload_n 0, 1) := by decide +kernel
theorem dL_worlds_368 : decode cL_worlds 368 = .ok (.invokevirtual 152, 3) := by decide +kernel
theorem dL_worlds_371 : decode cL_worlds 371 = .ok (.ifCond .ne 77, 3) := by decide +kernel
theorem dL_worlds_374 : decode cL_worlds 374 = .ok (.aload_n 0, 1) := by decide +kernel
theorem dL_worlds_375 : decode cL_worlds 375 = .ok (.iconst 1, 1) := by decide +kernel
theorem dL_worlds_376 : decode cL_worlds 376 = .ok (.iconst 2, 1) := by decide +kernel
theorem dL_worlds_377 : decode cL_worlds 377 = .ok (.bipush 9, 2) := by decide +kernel
theorem dL_worlds_379 : decode cL_worlds 379 = .ok (.iconst 0, 1) := by decide +kernel
theorem dL_worlds_380 : decode cL_worlds 380 = .ok (.invokestatic 195, 3) := by decide +kernel
theorem dL_worlds_383 : decode cL_worlds 383 = .ok (.ifCond .eq 65, 3) := by decide +kernel
theorem dL_worlds_386 : decode cL_worlds 386 = .ok (.aload_n 0, 1) := by decide +kernel
theorem dL_worlds_387 : decode cL_worlds 387 = .ok (.bipush 18, 2) := by decide +kernel
theorem dL_worlds_389 : decode cL_worlds 389 = .ok (.bipush 100, 2) := by decide +kernel
theorem dL_worlds_391 : decode cL_worlds 391 = .ok (.iconst 2, 1) := by decide +kernel
theorem dL_worlds_392 : decode cL_worlds 392 = .ok (.bipush 9, 2) := by decide +kernel
theorem dL_worlds_394 : decode cL_worlds 394 = .ok (.iconst 0, 1) := by decide +kernel
theorem dL_worlds_395 : decode cL_worlds 395 = .ok (.invokestatic 191, 3) := by decide +kernel
theorem dL_worlds_398 : decode cL_worlds 398 = .ok (.ifCond .eq 50, 3) := by decide +kernel
theorem dL_worlds_401 : decode cL_worlds 401 = .ok (.aload_n 0, 1) := by decide +kernel
theorem dL_worlds_402 : decode cL_worlds 402 = .ok (.invokevirtual 143, 3) := by decide +kernel
theorem dL_worlds_405 : decode cL_worlds 405 = .ok (.iconst 2, 1) := by decide +kernel
theorem dL_worlds_406 : decode cL_worlds 406 = .ok (.if_icmp .ne 42, 3) := by decide +kernel
theorem dL_worlds_409 : decode cL_worlds 409 = .ok (.aload_n 0, 1) := by decide +kernel
theorem dL_worlds_410 : decode cL_worlds 410 = .ok (.iconst 1, 1) := by decide +kernel
theorem dL_worlds_411 : decode cL_worlds 411 = .ok (.iconst 1, 1) := by decide +kernel
theorem dL_worlds_412 : decode cL_worlds 412 = .ok (.bipush 77, 2) := by decide +kernel
theorem dL_worlds_414 : decode cL_worlds 414 = .ok (.invokevirtual 124, 3) := by decide +kernel
theorem dL_worlds_417 : decode cL_worlds 417 = .ok (.bipush 9, 2) := by decide +kernel
theorem dL_worlds_419 : decode cL_worlds 419 = .ok (.if_icmp .ne 29, 3) := by decide +kernel
theorem dL_worlds_422 : decode cL_worlds 422 = .ok (.aload_n 0, 1) := by decide +kernel
theorem dL_worlds_423 : decode cL_worlds 423 = .ok (.invokevirtual 133, 3) := by decide +kernel
theorem dL_worlds_426 : decode cL_worlds 426 = .ok (.ifCond .ne 22, 3) := by decide +kernel
theorem dL_worlds_429 : decode cL_worlds 429 = .ok (.aload_n 0, 1) := by decide +kernel
theorem dL_worlds_430 : decode cL_worlds 430 = .ok (.invokevirtual 143, 3) := by decide +kernel
theorem dL_worlds_433 : decode cL_worlds 433 = .ok (.iconst 2, 1) := by decide +kernel
theorem dL_worlds_434 : decode cL_worlds 434 = .ok (.if_icmp .ne 14, 3) := by decide +kernel
theorem dL_worlds_437 : decode cL_worlds 437 = .ok (.aload_n 0, 1) := by decide +kernel
theorem dL_worlds_438 : decode cL_worlds 438 = .ok (.iconst 3, 1) := by decide +kernel
theorem dL_worlds_439 : decode cL_worlds 439 = .ok (.iconst 0, 1) := by decide +kernel
theorem dL_worlds_440 : decode cL_worlds 440 = .ok (.iconst 2, 1) := by decide +kernel
theorem dL_worlds_441 : decode cL_worlds 441 = .ok (.iconst 1, 1) := by decide +kernel
theorem dL_worlds_442 : decode cL_worlds 442 = .ok (.invokestatic 162, 3) := by decide +kernel
theorem dL_worlds_445 : decode cL_worlds 445 = .ok (.ifCond .ne 5, 3) := by decide +kernel
theorem dL_worlds_448 : decode cL_worlds 448 = .ok (.iconst 0, 1) := by decide +kernel
theorem dL_worlds_449 : decode cL_worlds 449 = .ok (.ireturn, 1) := by decide +kernel
theorem dL_worlds_450 : decode cL_worlds 450 = .ok (.aload_n 0, 1) := by decide +kernel
theorem dL_worlds_451 : decode cL_worlds 451 = .ok (.iconst 0, 1) := by decide +kernel
theorem dL_worlds_452 : decode cL_worlds 452 = .ok (.iconst 0, 1) := by decide +kernel
theorem dL_worlds_453 : decode cL_worlds 453 = .ok (.bipush 25, 2) := by decide +kernel
theorem dL_worlds_455 : decode cL_worlds 455 = .ok (.invokevirtual 124, 3) := by decide +kernel
theorem dL_worlds_458 : decode cL_worlds 458 = .ok (.bipush 20, 2) := by decide +kernel
theorem dL_worlds_460 : decode cL_worlds 460 = .ok (.if_icmp .ne 292, 3) := by decide +kernel
theorem dL_worlds_463 : decode cL_worlds 463 = .ok (.aload_n 0, 1) := by decide +kernel
theorem dL_worlds_464 : decode cL_worlds 464 = .ok (.invokevirtual 133, 3) := by decide +kernel
theorem dL_worlds_467 : decode cL_worlds 467 = .ok (.iconst 1, 1) := by decide +kernel
theorem dL_worlds_468 : decode cL_worlds 468 = .ok (.if_icmp .ne 284, 3) := by decide +kernel
theorem dL_worlds_471 : decode cL_worlds 471 = .ok (.aload_n 0, 1) := by decide +kernel
theorem dL_worlds_472 : decode cL_worlds 472 = .ok (.iconst 2, 1) := by decide +kernel
theorem dL_worlds_473 : decode cL_worlds 473 = .ok (.bipush 10, 2) := by decide +kernel
theorem dL_worlds_475 : decode cL_worlds 475 = .ok (.bipush 25, 2) := by decide +kernel
theorem dL_worlds_477 : decode cL_worlds 477 = .ok (.iconst 2, 1) := by decide +kernel
theorem dL_worlds_478 : decode cL_worlds 478 = .ok (.iconst 0, 1) := by decide +kernel
theorem dL_worlds_479 : decode cL_worlds 479 = .ok (.invokestatic 191, 3) := by decide +kernel
theorem dL_worlds_482 : decode cL_worlds 482 = .ok (.ifCond .eq 270, 3) := by decide +kernel
theorem dL_worlds_485 : decode cL_worlds 485 = .ok (.aload_n 0, 1) := by decide +kernel
theorem dL_worlds_486 : decode cL_worlds 486 = .ok (.invokevirtual 149, 3) := by decide +kernel
theorem dL_worlds_489 : decode cL_worlds 489 = .ok (.ifCond .ne 263, 3) := by decide +kernel
theorem dL_worlds_492 : decode cL_worlds 492 = .ok (.aload_n 0, 1) := by decide +kernel
theorem dL_worlds_493 : decode cL_worlds 493 = .ok (.iconst 0, 1) := by decide +kernel
theorem dL_worlds_494 : decode cL_worlds 494 = .ok (.invokevirtual 20, 3) := by decide +kernel
theorem dL_worlds_497 : decode cL_worlds 497 = .ok (.iconst 2, 1) := by decide +kernel
theorem dL_worlds_498 : decode cL_worlds 498 = .ok (.if_icmp .ne 254, 3) := by decide +kernel
theorem dL_worlds_501 : decode cL_worlds 501 = .ok (.aload_n 0, 1) := by decide +kernel
theorem dL_worlds_502 : decode cL_worlds 502 = .ok (.iconst 1, 1) := by decide +kernel
theorem dL_worlds_503 : decode cL_worlds 503 = .ok (.iconst 0, 1) := by decide +kernel
theorem dL_worlds_504 : decode cL_worlds 504 = .ok (.iconst 0, 1) := by decide +kernel
theorem dL_worlds_505 : decode cL_worlds 505 = .ok (.bipush 21, 2) := by decide +kernel
theorem dL_worlds_507 : decode cL_worlds 507 = .ok (.iconst 0, 1) := by decide +kernel
theorem dL_worlds_508 : decode cL_worlds 508 = .ok (.invokevirtual 7, 3) := by decide +kernel
theorem dL_worlds_511 : decode cL_worlds 511 = .ok (.iconst 3, 1) := by decide +kernel
theorem dL_worlds_512 : decode cL_worlds 512 = .ok (.if_icmp .ne 240, 3) := by decide +kernel
theorem dL_worlds_515 : decode cL_worlds 515 = .ok (.aload_n 0, 1) := by decide +kernel
theorem dL_worlds_516 : decode cL_worlds 516 = .ok (.invokevirtual 149, 3) := by decide +kernel
theorem dL_worlds_519 : decode cL_worlds 519 = .ok (.iconst 1, 1) := by decide +kernel
theorem dL_worlds_520 : decode cL_worlds 520 = .ok (.if_icmp .ne 232, 3) := by decide +kernel
theorem dL_worlds_523 : decode cL_worlds 523 = .ok (.aload_n 0, 1) := by decide +kernel
theorem dL_worlds_524 : decode cL_worlds 524 = .ok (.iconst 0, 1) := by decide +kernel
theorem dL_worlds_525 : decode cL_worlds 525 = .ok (.iconst 1, 1) := by decide +kernel
theorem dL_worlds_526 : decode cL_worlds 526 = .ok (.bipush 40, 2) := by decide +kernel
theorem dL_worlds_528 : decode cL_worlds 528 = .ok (.invokevirtual 124, 3) := by decide +kernel
theorem dL_worlds_531 : decode cL_worlds 531 = .ok (.iconst 2, 1) := by decide +kernel
theorem dL_worlds_532 : decode cL_worlds 532 = .ok (.if_icmp .ne 220, 3) := by decide +kernel
theorem dL_worlds_535 : decode cL_worlds 535 = .ok (.aload_n 0, 1) := by decide +kernel
theorem dL_worlds_536 : decode cL_worlds 536 = .ok (.invokevirtual 133, 3) := by decide +kernel
theorem dL_worlds_539 : decode cL_worlds 539 = .ok (.iconst 1, 1) := by decide +kernel
theorem dL_worlds_540 : decode cL_worlds 540 = .ok (.if_icmp .ne 212, 3) := by decide +kernel
theorem dL_worlds_543 : decode cL_worlds 543 = .ok (.aload_n 0, 1) := by decide +kernel
theorem dL_worlds_544 : decode cL_worlds 544 = .ok (.iconst 2, 1) := by decide +kernel
theorem dL_worlds_545 : decode cL_worlds 545 = .ok (.bipush 30, 2) := by decide +kernel
theorem dL_worlds_547 : decode cL_worlds 547 = .ok (.bipush 25, 2) := by decide +kernel
theorem dL_worlds_549 : decode cL_worlds 549 = .ok (.bipush 40, 2) := by decide +kernel
theorem dL_worlds_551 : decode cL_worlds 551 = .ok (.iconst 0, 1) := by decide +kernel
theorem dL_worlds_552 : decode cL_worlds 552 = .ok (.invokestatic 191, 3) := by decide +kernel
