theorem dL_values_0 : decode cL_values 0 = .ok (.new 8, 3) := by decide +kernel
theorem dL_values_3 : decode cL_values 3 = .ok (.dup, 1) := by decide +kernel
theorem dL_values_4 : decode cL_values 4 = .ok (.invokespecial 161, 3) := by decide +kernel
theorem dL_values_7 : decode cL_values 7 = .ok (.astore_n 0, 1) := by decide +kernel
theorem dL_values_8 : decode cL_values 8 = .ok (.aload_n 0, 1) := by decide +kernel
theorem dL_values_9 : decode cL_values 9 = .ok (.iconst 0, 1) := by decide +kernel
theorem dL_values_10 : decode cL_values 10 = .ok (.iconst 0, 1) := by decide +kernel
theorem dL_values_11 : decode cL_values 11 = .ok (.iconst 0, 1) := by decide +kernel
theorem dL_values_12 : decode cL_values 12 = .ok (.iconst 0, 1) := by decide +kernel
theorem dL_values_13 : decode cL_values 13 = .ok (.invokestatic 162, 3) := by decide +kernel
theorem dL_values_16 : decode cL_values 16 = .ok (.ifCond .eq 336, 3) := by decide +kernel
theorem dL_values_19 : decode cL_values 19 = .ok (.aload_n 0, 1) := by decide +kernel
theorem dL_values_20 : decode cL_values 20 = .ok (.bipush 9, 2) := by decide +kernel
theorem dL_values_22 : decode cL_values 22 = .ok (.ldc 166, 2) := by decide +kernel
theorem dL_values_24 : decode cL_values 24 = .ok (.invokestatic 167, 3) := by decide +kernel
theorem dL_values_27 : decode cL_values 27 = .ok (.ifCond .eq 325, 3) := by decide +kernel
theorem dL_values_30 : decode cL_values 30 = .ok (.aload_n 0, 1) := by decide +kernel
theorem dL_values_31 : decode cL_values 31 = .ok (.invokevirtual 171, 3) := by decide +kernel
theorem dL_values_34 : decode cL_values 34 = .ok (.ifCond .ne 318, 3) := by decide +kernel
theorem dL_values_37 : decode cL_values 37 = .ok (.aload_n 0, 1) := by decide +kernel
theorem dL_values_38 : decode cL_values 38 = .ok (.invokevirtual 174, 3) := by decide +kernel
theorem dL_values_41 : decode cL_values 41 = .ok (.ifCond .ne 311, 3) := by decide +kernel
theorem dL_values_44 : decode cL_values 44 = .ok (.aload_n 0, 1) := by decide +kernel
theorem dL_values_45 : decode cL_values 45 = .ok (.iconst 0, 1) := by decide +kernel
theorem dL_values_46 : decode cL_values 46 = .ok (.invokevirtual 40, 3) := by decide +kernel
theorem dL_values_49 : decode cL_values 49 = .ok (.iconst (-1), 1) := by decide +kernel
theorem dL_values_50 : decode cL_values 50 = .ok (.if_icmp .ne 302, 3) := by decide +kernel
theorem dL_values_53 : decode cL_values 53 = .ok (.aload_n 0, 1) := by decide +kernel
theorem dL_values_54 : decode cL_values 54 = .ok (.iconst 0, 1) := by decide +kernel
theorem dL_values_55 : decode cL_values 55 = .ok (.iconst 1, 1) := by decide +kernel
theorem dL_values_56 : decode cL_values 56 = .ok (.iconst 0, 1) := by decide +kernel
theorem dL_values_57 : decode cL_values 57 = .ok (.iconst 5, 1) := by decide +kernel
theorem dL_values_58 : decode cL_values 58 = .ok (.bipush 10, 2) := by decide +kernel
theorem dL_values_60 : decode cL_values 60 = .ok (.invokevirtual 7, 3) := by decide +kernel
theorem dL_values_63 : decode cL_values 63 = .ok (.ifCond .ne 289, 3) := by decide +kernel
theorem dL_values_66 : decode cL_values 66 = .ok (.aload_n 0, 1) := by decide +kernel
theorem dL_values_67 : decode cL_values 67 = .ok (.iconst 0, 1) := by decide +kernel
theorem dL_values_68 : decode cL_values 68 = .ok (.ldc 177, 2) := by decide +kernel
theorem dL_values_70 : decode cL_values 70 = .ok (.invokestatic 167, 3) := by decide +kernel
theorem dL_values_73 : decode cL_values 73 = .ok (.ifCond .eq 279, 3) := by decide +kernel
theorem dL_values_76 : decode cL_values 76 = .ok (.aload_n 0, 1) := by decide +kernel
theorem dL_values_77 : decode cL_values 77 = .ok (.iconst 0, 1) := by decide +kernel
theorem dL_values_78 : decode cL_values 78 = .ok (.iconst 3, 1) := by decide +kernel
theorem dL_values_79 : decode cL_values 79 = .ok (.iconst 0, 1) := by decide +kernel
theorem dL_values_80 : decode cL_values 80 = .ok (.bipush 7, 2) := by decide +kernel
theorem dL_values_82 : decode cL_values 82 = .ok (.iconst 0, 1) := by decide +kernel
theorem dL_values_83 : decode cL_values 83 = .ok (.invokevirtual 7, 3) := by decide +kernel
theorem dL_values_86 : decode cL_values 86 = .ok (.iconst 1, 1) := by decide +kernel
theorem dL_values_87 : decode cL_values 87 = .ok (.if_icmp .ne 265, 3) := by decide +kernel
theorem dL_values_90 : decode cL_values 90 = .ok (.aload_n 0, 1) := by decide +kernel
theorem dL_values_91 : decode cL_values 91 = .ok (.iconst 0, 1) := by decide +kernel
theorem dL_values_92 : decode cL_values 92 = .ok (.ldc 178, 2) := by decide +kernel
theorem dL_values_94 : decode cL_values 94 = .ok (.invokestatic 167, 3) := by decide +kernel
theorem dL_values_97 : decode cL_values 97 = .ok (.ifCond .eq 255, 3) := by decide +kernel
theorem dL_values_100 : decode cL_values 100 = .ok (.aload_n 0, 1) := by decide +kernel
theorem dL_values_101 : decode cL_values 101 = .ok (.iconst 1, 1) := by decide +kernel
theorem dL_values_102 : decode cL_values 102 = .ok (.iconst 2, 1) := by decide +kernel
theorem dL_values_103 : decode cL_values 103 = .ok (.iconst 1, 1) := by decide +kernel
theorem dL_values_104 : decode cL_values 104 = .ok (.bipush 6, 2) := by decide +kernel
theorem dL_values_106 : decode cL_values 106 = .ok (.bipush 9, 2) := by decide +kernel
theorem dL_values_108 : decode cL_values 108 = .ok (.invokevirtual 7, 3) := by decide +kernel
theorem dL_values_111 : decode cL_values 111 = .ok (.iconst 2, 1) := by decide +kernel
theorem dL_values_112 : decode cL_values 112 = .ok (.if_icmp .ne 240, 3) := by decide +kernel
theorem dL_values_115 : decode cL_values 115 = .ok (.aload_n 0, 1) := by decide +kernel
theorem dL_values_116 : decode cL_values 116 = .ok (.iconst 1, 1) := by decide +kernel
theorem dL_values_117 : decode cL_values 117 = .ok (.sipush 20609, 3) := by decide +kernel
theorem dL_values_120 : decode cL_values 120 = .ok (.invokestatic 167, 3) := by decide +kernel
theorem dL_values_123 : decode cL_values 123 = .ok (.ifCond .eq 229, 3) := by decide +kernel
theorem dL_values_126 : decode cL_values 126 = .ok (.aload_n 0, 1) := by decide +kernel
theorem dL_values_127 : decode cL_values 127 = .ok (.iconst 1, 1) := by decide +kernel
theorem dL_values_128 : decode cL_values 128 = .ok (.iconst 5, 1) := by decide +kernel
theorem dL_values_129 : decode cL_values 129 = .ok (.iconst 0, 1) := by decide +kernel
theorem dL_values_130 : decode cL_values 130 = .ok (.iconst 1, 1) := by decide +kernel
theorem dL_values_131 : decode cL_values 131 = .ok (.iconst 0, 1) := by decide +kernel
theorem dL_values_132 : decode cL_values 132 = .ok (.invokevirtual 7, 3) := by decide +kernel
theorem dL_values_135 : decode cL_values 135 = .ok (.iconst 3, 1) := by decide +kernel
theorem dL_values_136 : decode cL_values 136 = .ok (.if_icmp .ne 216, 3) := by decide +kernel
theorem dL_values_139 : decode cL_values 139 = .ok (.aload_n 0, 1) := by decide +kernel
theorem dL_values_140 : decode cL_values 140 = .ok (.iconst 0, 1) := by decide +kernel
theorem dL_values_141 : decode cL_values 141 = .ok (.sipush 20609, 3) := by decide +kernel
theorem dL_values_144 : decode cL_values 144 = .ok (.invokestatic 167, 3) := by decide +kernel
theorem dL_values_147 : decode cL_values 147 = .ok (.ifCond .eq 205, 3) := by decide +kernel
theorem dL_values_150 : decode cL_values 150 = .ok (.aload_n 0, 1) := by decide +kernel
theorem dL_values_151 : decode cL_values 151 = .ok (.iconst 1, 1) := by decide +kernel
theorem dL_values_152 : decode cL_values 152 = .ok (.bipush 6, 2) := by decide +kernel
theorem dL_values_154 : decode cL_values 154 = .ok (.iconst 0, 1) := by decide +kernel
theorem dL_values_155 : decode cL_values 155 = .ok (.iconst 2, 1) := by decide +kernel
theorem dL_values_156 : decode cL_values 156 = .ok (.iconst 0, 1) := by decide +kernel
theorem dL_values_157 : decode cL_values 157 = .ok (.invokevirtual 7, 3) := by decide +kernel
theorem dL_values_160 : decode cL_values 160 = .ok (.iconst 4, 1) := by decide +kernel
theorem dL_values_161 : decode cL_values 161 = .ok (.if_icmp .ne 191, 3) := by decide +kernel
theorem dL_values_164 : decode cL_values 164 = .ok (.aload_n 0, 1) := by decide +kernel
theorem dL_values_165 : decode cL_values 165 = .ok (.iconst 2, 1) := by decide +kernel
theorem dL_values_166 : decode cL_values 166 = .ok (.ldc 179, 2) := by decide +kernel
theorem dL_values_168 : decode cL_values 168 = .ok (.invokestatic 167, 3) := by decide +kernel
theorem dL_values_171 : decode cL_values 171 = .ok (.ifCond .eq 181, 3) := by decide +kernel
theorem dL_values_174 : decode cL_values 174 = .ok (.aload_n 0, 1) := by decide +kernel
theorem dL_values_175 : decode cL_values 175 = .ok (.iconst 0, 1) := by decide +kernel
theorem dL_values_176 : decode cL_values 176 = .ok (.invokevirtual 40, 3) := by decide +kernel
theorem dL_values_179 : decode cL_values 179 = .ok (.iconst (-1), 1) := by decide +kernel
theorem dL_values_180 : decode cL_values 180 = .ok (.if_icmp .ne 172, 3) := by decide +kernel
theorem dL_values_183 : decode cL_values 183 = .ok (.aload_n 0, 1) := by decide +kernel
theorem dL_values_184 : decode cL_values 184 = .ok (.iconst 2, 1) := by decide +kernel
theorem dL_values_185 : decode cL_values 185 = .ok (.iconst 4, 1) := by decide +kernel
theorem dL_values_186 : decode cL_values 186 = .ok (.iconst 0, 1) := by decide +kernel
theorem dL_values_187 : decode cL_values 187 = .ok (.bipush 9, 2) := by decide +kernel
theorem dL_values_189 : decode cL_values 189 = .ok (.iconst 0, 1) := by decide +kernel
theorem dL_values_190 : decode cL_values 190 = .ok (.invokevirtual 7, 3) := by decide +kernel
theorem dL_values_193 : decode cL_values 193 = .ok (.iconst 5, 1) := by decide +kernel
theorem dL_values_194 : decode cL_values 194 = .ok (.if_icmp .ne 158, 3) := by decide +kernel
theorem dL_values_197 : decode cL_values 197 = .ok (.aload_n 0, 1) := by decide +kernel
theorem dL_values_198 : decode cL_values 198 = .ok (.iconst 0, 1) := by decide +kernel
theorem dL_values_199 : decode cL_values 199 = .ok (.invokevirtual 40, 3) := by decide +kernel
theorem dL_values_202 : decode cL_values 202 = .ok (.bipush 9, 2) := by decide +kernel
theorem dL_values_204 : decode cL_values 204 = .ok (.if_icmp .ne 148, 3) := by decide +kernel
theorem dL_values_207 : decode cL_values 207 = .ok (.aload_n 0, 1) := by decide +kernel
theorem dL_values_208 : decode cL_values 208 = .ok (.iconst 1, 1) := by decide +kernel
theorem dL_values_209 : decode cL_values 209 = .ok (.invokevirtual 40, 3) := by decide +kernel
theorem dL_values_212 : decode cL_values 212 = .ok (.bipush 9, 2) := by decide +kernel
theorem dL_values_214 : decode cL_values 214 = .ok (.if_icmp .ne 138, 3) := by decide +kernel
theorem dL_values_217 : decode cL_values 217 = .ok (.aload_n 0, 1) := by decide +kernel
theorem dL_values_218 : decode cL_values 218 = .ok (.iconst 2, 1) := by decide +kernel
theorem dL_values_219 : decode cL_values 219 = .ok (.invokevirtual 40, 3) := by decide +kernel
theorem dL_values_222 : decode cL_values 222 = .ok (.iconst (-1), 1) := by decide +kernel
theorem dL_values_223 : decode cL_values 223 = .ok (.if_icmp .ne 129, 3) := by decide +kernel
theorem dL_values_226 : decode cL_values 226 = .ok (.aload_n 0, 1) := by decide +kernel
theorem dL_values_227 : decode cL_values 227 = .ok (.iconst 0, 1) := by decide +kernel
theorem dL_values_228 : decode cL_values 228 = .ok (.sipush 20609, 3) := by decide +kernel
theorem dL_values_231 : decode cL_values 231 = .ok (.invokestatic 167, 3) := by decide +kernel
theorem dL_values_234 : decode cL_values 234 = .ok (.ifCond .eq 118, 3) := by decide +kernel
theorem dL_values_237 : decode cL_values 237 = .ok (.aload_n 0, 1) := by decide +kernel
theorem dL_values_238 : decode cL_values 238 = .ok (.iconst 3, 1) := by decide +kernel
theorem dL_values_239 : decode cL_values 239 = .ok (.iconst 2, 1) := by decide +kernel
theorem dL_values_240 : decode cL_values 240 = .ok (.invokevirtual 23, 3) := by decide +kernel
theorem dL_values_243 : decode cL_values 243 = .ok (.ifCond .ne 109, 3) := by decide +kernel
theorem dL_values_246 : decode cL_values 246 = .ok (.aload_n 0, 1) := by decide +kernel
theorem dL_values_247 : decode cL_values 247 = .ok (.iconst 3, 1) := by decide +kernel
theorem dL_values_248 : decode cL_values 248 = .ok (.iconst 2, 1) := by decide +kernel
theorem dL_values_249 : decode cL_values 249 = .ok (.invokevirtual 23, 3) := by decide +kernel
theorem dL_values_252 : decode cL_values 252 = .ok (.iconst 2, 1) := by decide +kernel
theorem dL_values_253 : decode cL_values 253 = .ok (.if_icmp .ne 99, 3) := by decide +kernel
theorem dL_values_256 : decode cL_values 256 = .ok (.aload_n 0, 1) := by decide +kernel
theorem dL_values_257 : decode cL_values 257 = .ok (.iconst 3, 1) := by decide +kernel
theorem dL_values_258 : decode cL_values 258 = .ok (.iconst 4, 1) := by decide +kernel
theorem dL_values_259 : decode cL_values 259 = .ok (.iconst 0, 1) := by decide +kernel
theorem dL_values_260 : decode cL_values 260 = .ok (.bipush 6, 2) := by decide +kernel
theorem dL_values_262 : decode cL_values 262 = .ok (.iconst 0, 1) := by decide +kernel
theorem dL_values_263 : decode cL_values 263 = .ok (.invokevirtual 7, 3) := by decide +kernel
theorem dL_values_266 : decode cL_values 266 = .ok (.bipush 6, 2) := by decide +kernel
theorem dL_values_268 : decode cL_values 268 = .ok (.if_icmp .ne 84, 3) := by decide +kernel
theorem dL_values_271 : decode cL_values 271 = .ok (.aload_n 0, 1) := by decide +kernel
theorem dL_values_272 : decode cL_values 272 = .ok (.iconst 0, 1) := by decide +kernel
theorem dL_values_273 : decode cL_values 273 = .ok (.invokevirtual 40, 3) := by decide +kernel
theorem dL_values_276 : decode cL_values 276 = .ok (.bipush 6, 2) := by decide +kernel
theorem dL_values_278 : decode cL_values 278 = .ok (.if_icmp .ne 74, 3) := by decide +kernel
theorem dL_values_281 : decode cL_values 281 = .ok (.aload_n 0, 1) := by decide +kernel
theorem dL_values_282 : decode cL_values 282 = .ok (.iconst 3, 1) := by decide +kernel
theorem dL_values_283 : decode cL_values 283 = .ok (.iconst 4, 1) := by decide +kernel
theorem dL_values_284 : decode cL_values 284 = .ok (.iconst 0, 1) := by decide +kernel
theorem dL_values_285 : decode cL_values 285 = .ok (.bipush 9, 2) := by decide +kernel
theorem dL_values_287 : decode cL_values 287 = .ok (.iconst 0, 1) := by decide +kernel
theorem dL_values_288 : decode cL_values 288 = .ok (.invokevirtual 7, 3) := by decide +kernel
theorem dL_values_291 : decode cL_values 291 = .ok (.bipush 7, 2) := by decide +kernel
theorem dL_values_293 : decode cL_values 293 = .ok (.if_icmp .ne 59, 3) := by decide +kernel
theorem dL_values_296 : decode cL_values 296 = .ok (.aload_n 0, 1) := by decide +kernel
theorem dL_values_297 : decode cL_values 297 = .ok (.iconst 0, 1) := by decide +kernel
theorem dL_values_298 : decode cL_values 298 = .ok (.invokevirtual 40, 3) := by decide +kernel
theorem dL_values_301 : decode cL_values 301 = .ok (.iconst (-1), 1) := by decide +kernel
theorem dL_values_302 : decode cL_values 302 = .ok (.if_icmp .ne 50, 3) := by decide +kernel
theorem dL_values_305 : decode cL_values 305 = .ok (.aload_n 0, 1) := by decide +kernel
theorem dL_values_306 : decode cL_values 306 = .ok (.bipush 7, 2) := by decide +kernel
theorem dL_values_308 : decode cL_values 308 = .ok (.invokevirtual 20, 3) := by decide +kernel
theorem dL_values_311 : decode cL_values 311 = .ok (.bipush 7, 2) := by decide +kernel
theorem dL_values_313 : decode cL_values 313 = .ok (.if_icmp .ne 39, 3) := by decide +kernel
theorem dL_values_316 : decode cL_values 316 = .ok (.aload_n 0, 1) := by decide +kernel
theorem dL_values_317 : decode cL_values 317 = .ok (.iconst 3, 1) := by decide +kernel
theorem dL_values_318 : decode cL_values 318 = .ok (.bipush 7, 2) := by decide +kernel
theorem dL_values_320 : decode cL_values 320 = .ok (.iconst 0, 1) := by decide +kernel
theorem dL_values_321 : decode cL_values 321 = .ok (.iconst 0, 1) := by decide +kernel
theorem dL_values_322 : decode cL_values 322 = .ok (.iconst 0, 1) := by decide +kernel
theorem dL_values_323 : decode cL_values 323 = .ok (.iconst 0, 1) := by decide +kernel
theorem dL_values_324 : decode cL_values 324 = .ok (.invokestatic 157, 3) := by decide +kernel
theorem dL_values_327 : decode cL_values 327 = .ok (.bipush (-71), 2) := by decide +kernel
theorem dL_values_329 : decode cL_values 329 = .ok (.if_icmp .ne 23, 3) := by decide +kernel
theorem dL_values_332 : decode cL_values 332 = .ok (.aload_n 0, 1) := by decide +kernel
theorem dL_values_333 : decode cL_values 333 = .ok (.bipush 7, 2) := by decide +kernel
theorem dL_values_335 : decode cL_values 335 = .ok (.invokevirtual 37, 3) := by decide +kernel
theorem dL_values_338 : decode cL_values 338 = .ok (.iconst (-1), 1) := by decide +kernel
theorem dL_values_339 : decode cL_values 339 = .ok (.if_icmp .ne 13, 3) := by decide +kernel
theorem dL_values_342 : decode cL_values 342 = .ok (.aload_n 0, 1) := by decide +kernel
theorem dL_values_343 : decode cL_values 343 = .ok (.iconst 0, 1) := by decide +kernel
theorem dL_values_344 : decode cL_values 344 = .ok (.invokevirtual 40, 3) := by decide +kernel
theorem dL_values_347 : decode cL_values 347 = .ok (.bipush 6, 2) := by decide +kernel
theorem dL_values_349 : decode cL_values 349 = .ok (.if_icmp .eq 5, 3) := by decide +kernel
theorem dL_values_352 : decode cL_values 352 = .ok (.iconst 0, 1) := by decide +kernel
theorem dL_values_353 : decode cL_values 353 = .ok (.ireturn, 1) := by decide +kernel
theorem dL_values_354 : decode cL_values 354 = .ok (.aload_n 0, 1) := by decide +kernel
theorem dL_values_355 : decode cL_values 355 = .ok (.iconst 4, 1) := by decide +kernel
theorem dL_values_356 : decode cL_values 356 = .ok (.bipush 7, 2) := by decide +kernel
theorem dL_values_358 : decode cL_values 358 = .ok (.iconst 1, 1) := by decide +kernel
theorem dL_values_359 : decode cL_values 359 = .ok (.bipush 6, 2) := by decide +kernel
theorem dL_values_361 : decode cL_values 361 = .ok (.iconst 0, 1) := by decide +kernel
theorem dL_values_362 : decode cL_values 362 = .ok (.invokevirtual 7, 3) := by decide +kernel
theorem dL_values_365 : decode cL_values 365 = .ok (.bipush 8, 2) := by decide +kernel
theorem dL_values_367 : decode cL_values 367 = .ok (.if_icmp .ne 273, 3) := by decide +kernel
theorem dL_values_370 : decode cL_values 370 = .ok (.aload_n 0, 1) := by decide +kernel
theorem dL_values_371 : decode cL_values 371 = .ok (.iconst 4, 1) := by decide +kernel
theorem dL_values_372 : decode cL_values 372 = .ok (.iconst 0, 1) := by decide +kernel
theorem dL_values_373 : decode cL_values 373 = .ok (.iconst 3, 1) := by decide +kernel
theorem dL_values_374 : decode cL_values 374 = .ok (.bipush 40, 2) := by decide +kernel
theorem dL_values_376 : decode cL_values 376 = .ok (.iconst 0, 1) := by decide +kernel
theorem dL_values_377 : decode cL_values 377 = .ok (.invokevirtual 7, 3) := by decide +kernel
theorem dL_values_380 : decode cL_values 380 = .ok (.bipush 9, 2) := by decide +kernel
theorem dL_values_382 : decode cL_values 382 = .ok (.if_icmp .ne 258, 3) := by decide +kernel
theorem dL_values_385 : decode cL_values 385 = .ok (.aload_n 0, 1) := by decide +kernel
theorem dL_values_386 : decode cL_values 386 = .ok (.bipush 8, 2) := by decide +kernel
theorem dL_values_388 : decode cL_values 388 = .ok (.invokevirtual 37, 3) := by decide +kernel
theorem dL_values_391 : decode cL_values 391 = .ok (.ifCond .ne 249, 3) := by decide +kernel
theorem dL_values_394 : decode cL_values 394 = .ok (.aload_n 0, 1) := by decide +kernel
theorem dL_values_395 : decode cL_values 395 = .ok (.bipush 9, 2) := by decide +kernel
theorem dL_values_397 : decode cL_values 397 = .ok (.invokevirtual 37, 3) := by decide +kernel
theorem dL_values_400 : decode cL_values 400 = .ok (.bipush 10, 2) := by decide +kernel
theorem dL_values_402 : decode cL_values 402 = .ok (.if_icmp .ne 238, 3) := by decide +kernel
theorem dL_values_405 : decode cL_values 405 = .ok (.aload_n 0, 1) := by decide +kernel
theorem dL_values_406 : decode cL_values 406 = .ok (.iconst 3, 1) := by decide +kernel
theorem dL_values_407 : decode cL_values 407 = .ok (.invokevirtual 40, 3) := by decide +kernel
theorem dL_values_410 : decode cL_values 410 = .ok (.bipush 40, 2) := by decide +kernel
theorem dL_values_412 : decode cL_values 412 = .ok (.if_icmp .ne 228, 3) := by decide +kernel
theorem dL_values_415 : decode cL_values 415 = .ok (.aload_n 0, 1) := by decide +kernel
theorem dL_values_416 : decode cL_values 416 = .ok (.iconst 3, 1) := by decide +kernel
theorem dL_values_417 : decode cL_values 417 = .ok (.ldc 166, 2) := by decide +kernel
theorem dL_values_419 : decode cL_values 419 = .ok (.invokestatic 167, 3) := by decide +kernel
theorem dL_values_422 : decode cL_values 422 = .ok (.ifCond .eq 218, 3) := by decide +kernel
theorem dL_values_425 : decode cL_values 425 = .ok (.aload_n 0, 1) := by decide +kernel
theorem dL_values_426 : decode cL_values 426 = .ok (.iconst 0, 1) := by decide +kernel
theorem dL_values_427 : decode cL_values 427 = .ok (.iconst 3, 1) := by decide +kernel
theorem dL_values_428 : decode cL_values 428 = .ok (.iconst 0, 1) := by decide +kernel
theorem dL_values_429 : decode cL_values 429 = .ok (.bipush 9, 2) := by decide +kernel
theorem dL_values_431 : decode cL_values 431 = .ok (.iconst 0, 1) := by decide +kernel
theorem dL_values_432 : decode cL_values 432 = .ok (.invokevirtual 7, 3) := by decide +kernel
theorem dL_values_435 : decode cL_values 435 = .ok (.bipush 10, 2) := by decide +kernel
theorem dL_values_437 : decode cL_values 437 = .ok (.if_icmp .ne 203, 3) := by decide +kernel
theorem dL_values_440 : decode cL_values 440 = .ok (.aload_n 0, 1) := by decide +kernel
theorem dL_values_441 : decode cL_values 441 = .ok (.bipush 9, 2) := by decide +kernel
theorem dL_values_443 : decode cL_values 443 = .ok (.invokevirtual 37, 3) := by decide +kernel
theorem dL_values_446 : decode cL_values 446 = .ok (.ifCond .ne 194, 3) := by decide +kernel
theorem dL_values_449 : decode cL_values 449 = .ok (.aload_n 0, 1) := by decide +kernel
theorem dL_values_450 : decode cL_values 450 = .ok (.iconst 3, 1) := by decide +kernel
theorem dL_values_451 : decode cL_values 451 = .ok (.sipush 14040, 3) := by decide +kernel
theorem dL_values_454 : decode cL_values 454 = .ok (.invokestatic 167, 3) := by decide +kernel
theorem dL_values_457 : decode cL_values 457 = .ok (.ifCond .eq 183, 3) := by decide +kernel
theorem dL_values_460 : decode cL_values 460 = .ok (.aload_n 0, 1) := by decide +kernel
theorem dL_values_461 : decode cL_values 461 = .ok (.iconst 1, 1) := by decide +kernel
theorem dL_values_462 : decode cL_values 462 = .ok (.sipush 10606, 3) := by decide +kernel
theorem dL_values_465 : decode cL_values 465 = .ok (.invokestatic 167, 3) := by decide +kernel
theorem dL_values_468 : decode cL_values 468 = .ok (.ifCond .eq 172, 3) := by decide +kernel
theorem dL_values_471 : decode cL_values 471 = .ok (.aload_n 0, 1) := by decide +kernel
theorem dL_values_472 : decode cL_values 472 = .ok (.iconst 5, 1) := by decide +kernel
theorem dL_values_473 : decode cL_values 473 = .ok (.iconst 0, 1) := by decide +kernel
theorem dL_values_474 : decode cL_values 474 = .ok (.iconst 3, 1) := by decide +kernel
theorem dL_values_475 : decode cL_values 475 = .ok (.bipush 41, 2) := by decide +kernel
theorem dL_values_477 : decode cL_values 477 = .ok (.iconst 0, 1) := by decide +kernel
theorem dL_values_478 : decode cL_values 478 = .ok (.invokevirtual 7, 3) := by decide +kernel
theorem dL_values_481 : decode cL_values 481 = .ok (.bipush 11, 2) := by decide +kernel
theorem dL_values_483 : decode cL_values 483 = .ok (.if_icmp .ne 157, 3) := by decide +kernel
theorem dL_values_486 : decode cL_values 486 = .ok (.aload_n 0, 1) := by decide +kernel
theorem dL_values_487 : decode cL_values 487 = .ok (.iconst 0, 1) := by decide +kernel
theorem dL_values_488 : decode cL_values 488 = .ok (.invokevirtual 40, 3) := by decide +kernel
theorem dL_values_491 : decode cL_values 491 = .ok (.bipush (-2), 2) := by decide +kernel
theorem dL_values_493 : decode cL_values 493 = .ok (.if_icmp .ne 147, 3) := by decide +kernel
theorem dL_values_496 : decode cL_values 496 = .ok (.aload_n 0, 1) := by decide +kernel
theorem dL_values_497 : decode cL_values 497 = .ok (.iconst 3, 1) := by decide +kernel
theorem dL_values_498 : decode cL_values 498 = .ok (.iconst 0, 1) := by decide +kernel
theorem dL_values_499 : decode cL_values 499 = .ok (.invokestatic 167, 3) := by decide +kernel
theorem dL_values_502 : decode cL_values 502 = .ok (.ifCond .eq 138, 3) := by decide +kernel
theorem dL_values_505 : decode cL_values 505 = .ok (.aload_n 0, 1) := by decide +kernel
theorem dL_values_506 : decode cL_values 506 = .ok (.iconst 0, 1) := by decide +kernel
theorem dL_values_507 : decode cL_values 507 = .ok (.sipush 10606, 3) := by decide +kernel
theorem dL_values_510 : decode cL_values 510 = .ok (.invokestatic 167, 3) := by decide +kernel
theorem dL_values_513 : decode cL_values 513 = .ok (.ifCond .eq 127, 3) := by decide +kernel
theorem dL_values_516 : decode cL_values 516 = .ok (.aload_n 0, 1) := by decide +kernel
theorem dL_values_517 : decode cL_values 517 = .ok (.invokevirtual 171, 3) := by decide +kernel
theorem dL_values_520 : decode cL_values 520 = .ok (.sipush 2560, 3) := by decide +kernel
theorem dL_values_523 : decode cL_values 523 = .ok (.if_icmp .ne 117, 3) := by decide +kernel
theorem dL_values_526 : decode cL_values 526 = .ok (.aload_n 0, 1) := by decide +kernel
theorem dL_values_527 : decode cL_values 527 = .ok (.iconst 0, 1) := by decide +kernel
theorem dL_values_528 : decode cL_values 528 = .ok (.iconst 5, 1) := by decide +kernel
theorem dL_values_529 : decode cL_values 529 = .ok (.bipush 8, 2) := by decide +kernel
theorem dL_values_531 : decode cL_values 531 = .ok (.invokevirtual 49, 3) := by decide +kernel
theorem dL_values_534 : decode cL_values 534 = .ok (.ifCond .ne 106, 3) := by decide +kernel
theorem dL_values_537 : decode cL_values 537 = .ok (.aload_n 0, 1) := by decide +kernel
theorem dL_values_538 : decode cL_values 538 = .ok (.iconst 0, 1) := by decide +kernel
theorem dL_values_539 : decode cL_values 539 = .ok (.invokevirtual 52, 3) := by decide +kernel
theorem dL_values_542 : decode cL_values 542 = .ok (.iconst (-1), 1) := by decide +kernel
theorem dL_values_543 : decode cL_values 543 = .ok (.if_icmp .ne 97, 3) := by decide +kernel
theorem dL_values_546 : decode cL_values 546 = .ok (.aload_n 0, 1) := by decide +kernel
theorem dL_values_547 : decode cL_values 547 = .ok (.iconst 2, 1) := by decide +kernel
theorem dL_values_548 : decode cL_values 548 = .ok (.bipush 10, 2) := by decide +kernel
theorem dL_values_550 : decode cL_values 550 = .ok (.bipush 63, 2) := by decide +kernel
theorem dL_values_552 : decode cL_values 552 = .ok (.invokevirtual 49, 3) := by decide +kernel
theorem dL_values_555 : decode cL_values 555 = .ok (.iconst 1, 1) := by decide +kernel
theorem dL_values_556 : decode cL_values 556 = .ok (.if_icmp .ne 84, 3) := by decide +kernel
theorem dL_values_559 : decode cL_values 559 = .ok (.aload_n 0, 1) := by decide +kernel
theorem dL_values_560 : decode cL_values 560 = .ok (.iconst 1, 1) := by decide +kernel
theorem dL_values_561 : decode cL_values 561 = .ok (.invokevirtual 52, 3) := by decide +kernel
theorem dL_values_564 : decode cL_values 564 = .ok (.bipush 7, 2) := by decide +kernel
theorem dL_values_566 : decode cL_values 566 = .ok (.if_icmp .ne 74, 3) := by decide +kernel
theorem dL_values_569 : decode cL_values 569 = .ok (.aload_n 0, 1) := by decide +kernel
theorem dL_values_570 : decode cL_values 570 = .ok (.iconst 3, 1) := by decide +kernel
theorem dL_values_571 : decode cL_values 571 = .ok (.iconst 0, 1) := by decide +kernel
theorem dL_values_572 : decode cL_values 572 = .ok (.bipush 63, 2) := by decide +kernel
theorem dL_values_574 : decode cL_values 574 = .ok (.invokevirtual 49, 3) := by decide +kernel
theorem dL_values_577 : decode cL_values 577 = .ok (.iconst 2, 1) := by decide +kernel
theorem dL_values_578 : decode cL_values 578 = .ok (.if_icmp .ne 62, 3) := by decide +kernel
theorem dL_values_581 : decode cL_values 581 = .ok (.aload_n 0, 1) := by decide +kernel
theorem dL_values_582 : decode cL_values 582 = .ok (.iconst 2, 1) := by decide +kernel
theorem dL_values_583 : decode cL_values 583 = .ok (.invokevirtual 52, 3) := by decide +kernel
theorem dL_values_586 : decode cL_values 586 = .ok (.bipush (-2), 2) := by decide +kernel
theorem dL_values_588 : decode cL_values 588 = .ok (.if_icmp .ne 52, 3) := by decide +kernel
theorem dL_values_591 : decode cL_values 591 = .ok (.aload_n 0, 1) := by decide +kernel
