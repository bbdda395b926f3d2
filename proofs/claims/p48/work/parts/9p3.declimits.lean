theorem dL_limits_0 : decode cL_limits 0 = .ok (.new 8, 3) := by decide +kernel
theorem dL_limits_3 : decode cL_limits 3 = .ok (.dup, 1) := by decide +kernel
theorem dL_limits_4 : decode cL_limits 4 = .ok (.invokespecial 161, 3) := by decide +kernel
theorem dL_limits_7 : decode cL_limits 7 = .ok (.astore_n 0, 1) := by decide +kernel
theorem dL_limits_8 : decode cL_limits 8 = .ok (.bipush (-73), 2) := by decide +kernel
theorem dL_limits_10 : decode cL_limits 10 = .ok (.istore_n 1, 1) := by decide +kernel
theorem dL_limits_11 : decode cL_limits 11 = .ok (.iconst 0, 1) := by decide +kernel
theorem dL_limits_12 : decode cL_limits 12 = .ok (.istore_n 2, 1) := by decide +kernel
theorem dL_limits_13 : decode cL_limits 13 = .ok (.iload_n 2, 1) := by decide +kernel
theorem dL_limits_14 : decode cL_limits 14 = .ok (.iconst 5, 1) := by decide +kernel
theorem dL_limits_15 : decode cL_limits 15 = .ok (.if_icmp .ge 37, 3) := by decide +kernel
theorem dL_limits_18 : decode cL_limits 18 = .ok (.aload_n 0, 1) := by decide +kernel
theorem dL_limits_19 : decode cL_limits 19 = .ok (.bipush 15, 2) := by decide +kernel
theorem dL_limits_21 : decode cL_limits 21 = .ok (.iload_n 2, 1) := by decide +kernel
theorem dL_limits_22 : decode cL_limits 22 = .ok (.iconst 3, 1) := by decide +kernel
theorem dL_limits_23 : decode cL_limits 23 = .ok (.irem, 1) := by decide +kernel
theorem dL_limits_24 : decode cL_limits 24 = .ok (.iconst 0, 1) := by decide +kernel
theorem dL_limits_25 : decode cL_limits 25 = .ok (.iconst 0, 1) := by decide +kernel
theorem dL_limits_26 : decode cL_limits 26 = .ok (.iconst 0, 1) := by decide +kernel
theorem dL_limits_27 : decode cL_limits 27 = .ok (.iconst 0, 1) := by decide +kernel
theorem dL_limits_28 : decode cL_limits 28 = .ok (.invokestatic 157, 3) := by decide +kernel
theorem dL_limits_31 : decode cL_limits 31 = .ok (.iload_n 2, 1) := by decide +kernel
theorem dL_limits_32 : decode cL_limits 32 = .ok (.iconst 4, 1) := by decide +kernel
theorem dL_limits_33 : decode cL_limits 33 = .ok (.if_icmp .ge 7, 3) := by decide +kernel
theorem dL_limits_36 : decode cL_limits 36 = .ok (.iload_n 2, 1) := by decide +kernel
theorem dL_limits_37 : decode cL_limits 37 = .ok (.goto 4, 3) := by decide +kernel
theorem dL_limits_40 : decode cL_limits 40 = .ok (.iload_n 1, 1) := by decide +kernel
theorem dL_limits_41 : decode cL_limits 41 = .ok (.if_icmp .eq 5, 3) := by decide +kernel
theorem dL_limits_44 : decode cL_limits 44 = .ok (.iconst 0, 1) := by decide +kernel
theorem dL_limits_45 : decode cL_limits 45 = .ok (.ireturn, 1) := by decide +kernel
theorem dL_limits_46 : decode cL_limits 46 = .ok (.iinc 2 1, 3) := by decide +kernel
theorem dL_limits_49 : decode cL_limits 49 = .ok (.goto (-36), 3) := by decide +kernel
theorem dL_limits_52 : decode cL_limits 52 = .ok (.iconst 0, 1) := by decide +kernel
theorem dL_limits_53 : decode cL_limits 53 = .ok (.istore_n 2, 1) := by decide +kernel
theorem dL_limits_54 : decode cL_limits 54 = .ok (.iload_n 2, 1) := by decide +kernel
theorem dL_limits_55 : decode cL_limits 55 = .ok (.bipush 9, 2) := by decide +kernel
theorem dL_limits_57 : decode cL_limits 57 = .ok (.if_icmp .ge 64, 3) := by decide +kernel
theorem dL_limits_60 : decode cL_limits 60 = .ok (.aload_n 0, 1) := by decide +kernel
theorem dL_limits_61 : decode cL_limits 61 = .ok (.bipush 12, 2) := by decide +kernel
theorem dL_limits_63 : decode cL_limits 63 = .ok (.iload_n 2, 1) := by decide +kernel
theorem dL_limits_64 : decode cL_limits 64 = .ok (.iload_n 2, 1) := by decide +kernel
theorem dL_limits_65 : decode cL_limits 65 = .ok (.bipush 63, 2) := by decide +kernel
theorem dL_limits_67 : decode cL_limits 67 = .ok (.iconst 0, 1) := by decide +kernel
theorem dL_limits_68 : decode cL_limits 68 = .ok (.iconst 0, 1) := by decide +kernel
theorem dL_limits_69 : decode cL_limits 69 = .ok (.invokestatic 157, 3) := by decide +kernel
theorem dL_limits_72 : decode cL_limits 72 = .ok (.iload_n 2, 1) := by decide +kernel
theorem dL_limits_73 : decode cL_limits 73 = .ok (.bipush 8, 2) := by decide +kernel
theorem dL_limits_75 : decode cL_limits 75 = .ok (.if_icmp .ge 7, 3) := by decide +kernel
theorem dL_limits_78 : decode cL_limits 78 = .ok (.iload_n 2, 1) := by decide +kernel
theorem dL_limits_79 : decode cL_limits 79 = .ok (.goto 4, 3) := by decide +kernel
theorem dL_limits_82 : decode cL_limits 82 = .ok (.iload_n 1, 1) := by decide +kernel
theorem dL_limits_83 : decode cL_limits 83 = .ok (.if_icmp .ne 30, 3) := by decide +kernel
theorem dL_limits_86 : decode cL_limits 86 = .ok (.aload_n 0, 1) := by decide +kernel
theorem dL_limits_87 : decode cL_limits 87 = .ok (.bipush 16, 2) := by decide +kernel
theorem dL_limits_89 : decode cL_limits 89 = .ok (.iconst 3, 1) := by decide +kernel
theorem dL_limits_90 : decode cL_limits 90 = .ok (.iconst 0, 1) := by decide +kernel
theorem dL_limits_91 : decode cL_limits 91 = .ok (.iload_n 2, 1) := by decide +kernel
theorem dL_limits_92 : decode cL_limits 92 = .ok (.iconst 0, 1) := by decide +kernel
theorem dL_limits_93 : decode cL_limits 93 = .ok (.iconst 0, 1) := by decide +kernel
theorem dL_limits_94 : decode cL_limits 94 = .ok (.invokestatic 157, 3) := by decide +kernel
theorem dL_limits_97 : decode cL_limits 97 = .ok (.iload_n 2, 1) := by decide +kernel
theorem dL_limits_98 : decode cL_limits 98 = .ok (.bipush 8, 2) := by decide +kernel
theorem dL_limits_100 : decode cL_limits 100 = .ok (.if_icmp .ge 9, 3) := by decide +kernel
theorem dL_limits_103 : decode cL_limits 103 = .ok (.iload_n 2, 1) := by decide +kernel
theorem dL_limits_104 : decode cL_limits 104 = .ok (.iconst 1, 1) := by decide +kernel
theorem dL_limits_105 : decode cL_limits 105 = .ok (.iadd, 1) := by decide +kernel
theorem dL_limits_106 : decode cL_limits 106 = .ok (.goto 4, 3) := by decide +kernel
theorem dL_limits_109 : decode cL_limits 109 = .ok (.iload_n 1, 1) := by decide +kernel
theorem dL_limits_110 : decode cL_limits 110 = .ok (.if_icmp .eq 5, 3) := by decide +kernel
theorem dL_limits_113 : decode cL_limits 113 = .ok (.iconst 0, 1) := by decide +kernel
theorem dL_limits_114 : decode cL_limits 114 = .ok (.ireturn, 1) := by decide +kernel
theorem dL_limits_115 : decode cL_limits 115 = .ok (.iinc 2 1, 3) := by decide +kernel
theorem dL_limits_118 : decode cL_limits 118 = .ok (.goto (-64), 3) := by decide +kernel
theorem dL_limits_121 : decode cL_limits 121 = .ok (.iconst 0, 1) := by decide +kernel
theorem dL_limits_122 : decode cL_limits 122 = .ok (.istore_n 2, 1) := by decide +kernel
theorem dL_limits_123 : decode cL_limits 123 = .ok (.iload_n 2, 1) := by decide +kernel
theorem dL_limits_124 : decode cL_limits 124 = .ok (.bipush 31, 2) := by decide +kernel
theorem dL_limits_126 : decode cL_limits 126 = .ok (.if_icmp .ge 43, 3) := by decide +kernel
theorem dL_limits_129 : decode cL_limits 129 = .ok (.aload_n 0, 1) := by decide +kernel
theorem dL_limits_130 : decode cL_limits 130 = .ok (.iload_n 2, 1) := by decide +kernel
theorem dL_limits_131 : decode cL_limits 131 = .ok (.iconst 2, 1) := by decide +kernel
theorem dL_limits_132 : decode cL_limits 132 = .ok (.irem, 1) := by decide +kernel
theorem dL_limits_133 : decode cL_limits 133 = .ok (.iload_n 2, 1) := by decide +kernel
theorem dL_limits_134 : decode cL_limits 134 = .ok (.iconst 3, 1) := by decide +kernel
theorem dL_limits_135 : decode cL_limits 135 = .ok (.irem, 1) := by decide +kernel
theorem dL_limits_136 : decode cL_limits 136 = .ok (.bipush 8, 2) := by decide +kernel
theorem dL_limits_138 : decode cL_limits 138 = .ok (.iload_n 2, 1) := by decide +kernel
theorem dL_limits_139 : decode cL_limits 139 = .ok (.bipush 10, 2) := by decide +kernel
theorem dL_limits_141 : decode cL_limits 141 = .ok (.irem, 1) := by decide +kernel
theorem dL_limits_142 : decode cL_limits 142 = .ok (.iconst 0, 1) := by decide +kernel
theorem dL_limits_143 : decode cL_limits 143 = .ok (.iconst 0, 1) := by decide +kernel
theorem dL_limits_144 : decode cL_limits 144 = .ok (.invokestatic 157, 3) := by decide +kernel
theorem dL_limits_147 : decode cL_limits 147 = .ok (.iload_n 2, 1) := by decide +kernel
theorem dL_limits_148 : decode cL_limits 148 = .ok (.bipush 30, 2) := by decide +kernel
theorem dL_limits_150 : decode cL_limits 150 = .ok (.if_icmp .ge 7, 3) := by decide +kernel
theorem dL_limits_153 : decode cL_limits 153 = .ok (.iload_n 2, 1) := by decide +kernel
theorem dL_limits_154 : decode cL_limits 154 = .ok (.goto 4, 3) := by decide +kernel
theorem dL_limits_157 : decode cL_limits 157 = .ok (.iload_n 1, 1) := by decide +kernel
theorem dL_limits_158 : decode cL_limits 158 = .ok (.if_icmp .eq 5, 3) := by decide +kernel
theorem dL_limits_161 : decode cL_limits 161 = .ok (.iconst 0, 1) := by decide +kernel
theorem dL_limits_162 : decode cL_limits 162 = .ok (.ireturn, 1) := by decide +kernel
theorem dL_limits_163 : decode cL_limits 163 = .ok (.iinc 2 1, 3) := by decide +kernel
theorem dL_limits_166 : decode cL_limits 166 = .ok (.goto (-43), 3) := by decide +kernel
theorem dL_limits_169 : decode cL_limits 169 = .ok (.iconst 0, 1) := by decide +kernel
theorem dL_limits_170 : decode cL_limits 170 = .ok (.istore_n 2, 1) := by decide +kernel
theorem dL_limits_171 : decode cL_limits 171 = .ok (.iload_n 2, 1) := by decide +kernel
theorem dL_limits_172 : decode cL_limits 172 = .ok (.bipush 41, 2) := by decide +kernel
theorem dL_limits_174 : decode cL_limits 174 = .ok (.if_icmp .ge 38, 3) := by decide +kernel
theorem dL_limits_177 : decode cL_limits 177 = .ok (.aload_n 0, 1) := by decide +kernel
theorem dL_limits_178 : decode cL_limits 178 = .ok (.bipush 21, 2) := by decide +kernel
theorem dL_limits_180 : decode cL_limits 180 = .ok (.iload_n 2, 1) := by decide +kernel
theorem dL_limits_181 : decode cL_limits 181 = .ok (.iconst 3, 1) := by decide +kernel
theorem dL_limits_182 : decode cL_limits 182 = .ok (.irem, 1) := by decide +kernel
theorem dL_limits_183 : decode cL_limits 183 = .ok (.iconst 0, 1) := by decide +kernel
theorem dL_limits_184 : decode cL_limits 184 = .ok (.iconst 0, 1) := by decide +kernel
theorem dL_limits_185 : decode cL_limits 185 = .ok (.iconst 0, 1) := by decide +kernel
theorem dL_limits_186 : decode cL_limits 186 = .ok (.iconst 0, 1) := by decide +kernel
theorem dL_limits_187 : decode cL_limits 187 = .ok (.invokestatic 157, 3) := by decide +kernel
theorem dL_limits_190 : decode cL_limits 190 = .ok (.iload_n 2, 1) := by decide +kernel
theorem dL_limits_191 : decode cL_limits 191 = .ok (.bipush 40, 2) := by decide +kernel
theorem dL_limits_193 : decode cL_limits 193 = .ok (.if_icmp .ge 7, 3) := by decide +kernel
theorem dL_limits_196 : decode cL_limits 196 = .ok (.iload_n 2, 1) := by decide +kernel
theorem dL_limits_197 : decode cL_limits 197 = .ok (.goto 4, 3) := by decide +kernel
theorem dL_limits_200 : decode cL_limits 200 = .ok (.iload_n 1, 1) := by decide +kernel
theorem dL_limits_201 : decode cL_limits 201 = .ok (.if_icmp .eq 5, 3) := by decide +kernel
theorem dL_limits_204 : decode cL_limits 204 = .ok (.iconst 0, 1) := by decide +kernel
theorem dL_limits_205 : decode cL_limits 205 = .ok (.ireturn, 1) := by decide +kernel
theorem dL_limits_206 : decode cL_limits 206 = .ok (.iinc 2 1, 3) := by decide +kernel
theorem dL_limits_209 : decode cL_limits 209 = .ok (.goto (-38), 3) := by decide +kernel
theorem dL_limits_212 : decode cL_limits 212 = .ok (.aload_n 0, 1) := by decide +kernel
theorem dL_limits_213 : decode cL_limits 213 = .ok (.invokevirtual 149, 3) := by decide +kernel
theorem dL_limits_216 : decode cL_limits 216 = .ok (.bipush 8, 2) := by decide +kernel
theorem dL_limits_218 : decode cL_limits 218 = .ok (.if_icmp .ne 25, 3) := by decide +kernel
theorem dL_limits_221 : decode cL_limits 221 = .ok (.aload_n 0, 1) := by decide +kernel
theorem dL_limits_222 : decode cL_limits 222 = .ok (.bipush 39, 2) := by decide +kernel
theorem dL_limits_224 : decode cL_limits 224 = .ok (.iconst 1, 1) := by decide +kernel
theorem dL_limits_225 : decode cL_limits 225 = .ok (.invokevirtual 98, 3) := by decide +kernel
theorem dL_limits_228 : decode cL_limits 228 = .ok (.iconst 1, 1) := by decide +kernel
theorem dL_limits_229 : decode cL_limits 229 = .ok (.if_icmp .ne 14, 3) := by decide +kernel
theorem dL_limits_232 : decode cL_limits 232 = .ok (.aload_n 0, 1) := by decide +kernel
theorem dL_limits_233 : decode cL_limits 233 = .ok (.bipush 39, 2) := by decide +kernel
theorem dL_limits_235 : decode cL_limits 235 = .ok (.invokevirtual 109, 3) := by decide +kernel
theorem dL_limits_238 : decode cL_limits 238 = .ok (.bipush 8, 2) := by decide +kernel
theorem dL_limits_240 : decode cL_limits 240 = .ok (.if_icmp .eq 5, 3) := by decide +kernel
theorem dL_limits_243 : decode cL_limits 243 = .ok (.iconst 0, 1) := by decide +kernel
theorem dL_limits_244 : decode cL_limits 244 = .ok (.ireturn, 1) := by decide +kernel
theorem dL_limits_245 : decode cL_limits 245 = .ok (.iconst 0, 1) := by decide +kernel
theorem dL_limits_246 : decode cL_limits 246 = .ok (.istore_n 2, 1) := by decide +kernel
theorem dL_limits_247 : decode cL_limits 247 = .ok (.iload_n 2, 1) := by decide +kernel
theorem dL_limits_248 : decode cL_limits 248 = .ok (.bipush 61, 2) := by decide +kernel
theorem dL_limits_250 : decode cL_limits 250 = .ok (.if_icmp .ge 38, 3) := by decide +kernel
theorem dL_limits_253 : decode cL_limits 253 = .ok (.aload_n 0, 1) := by decide +kernel
theorem dL_limits_254 : decode cL_limits 254 = .ok (.bipush 33, 2) := by decide +kernel
theorem dL_limits_256 : decode cL_limits 256 = .ok (.iload_n 2, 1) := by decide +kernel
theorem dL_limits_257 : decode cL_limits 257 = .ok (.iconst 3, 1) := by decide +kernel
theorem dL_limits_258 : decode cL_limits 258 = .ok (.irem, 1) := by decide +kernel
theorem dL_limits_259 : decode cL_limits 259 = .ok (.iconst 0, 1) := by decide +kernel
theorem dL_limits_260 : decode cL_limits 260 = .ok (.iconst 0, 1) := by decide +kernel
theorem dL_limits_261 : decode cL_limits 261 = .ok (.iconst 0, 1) := by decide +kernel
theorem dL_limits_262 : decode cL_limits 262 = .ok (.iconst 0, 1) := by decide +kernel
theorem dL_limits_263 : decode cL_limits 263 = .ok (.invokestatic 157, 3) := by decide +kernel
theorem dL_limits_266 : decode cL_limits 266 = .ok (.iload_n 2, 1) := by decide +kernel
theorem dL_limits_267 : decode cL_limits 267 = .ok (.bipush 60, 2) := by decide +kernel
theorem dL_limits_269 : decode cL_limits 269 = .ok (.if_icmp .ge 7, 3) := by decide +kernel
theorem dL_limits_272 : decode cL_limits 272 = .ok (.iload_n 2, 1) := by decide +kernel
theorem dL_limits_273 : decode cL_limits 273 = .ok (.goto 4, 3) := by decide +kernel
theorem dL_limits_276 : decode cL_limits 276 = .ok (.iload_n 1, 1) := by decide +kernel
theorem dL_limits_277 : decode cL_limits 277 = .ok (.if_icmp .eq 5, 3) := by decide +kernel
theorem dL_limits_280 : decode cL_limits 280 = .ok (.iconst 0, 1) := by decide +kernel
theorem dL_limits_281 : decode cL_limits 281 = .ok (.ireturn, 1) := by decide +kernel
theorem dL_limits_282 : decode cL_limits 282 = .ok (.iinc 2 1, 3) := by decide +kernel
theorem dL_limits_285 : decode cL_limits 285 = .ok (.goto (-38), 3) := by decide +kernel
theorem dL_limits_288 : decode cL_limits 288 = .ok (.iconst 0, 1) := by decide +kernel
theorem dL_limits_289 : decode cL_limits 289 = .ok (.istore_n 2, 1) := by decide +kernel
theorem dL_limits_290 : decode cL_limits 290 = .ok (.iload_n 2, 1) := by decide +kernel
theorem dL_limits_291 : decode cL_limits 291 = .ok (.bipush 8, 2) := by decide +kernel
theorem dL_limits_293 : decode cL_limits 293 = .ok (.if_icmp .ge 33, 3) := by decide +kernel
theorem dL_limits_296 : decode cL_limits 296 = .ok (.aload_n 0, 1) := by decide +kernel
theorem dL_limits_297 : decode cL_limits 297 = .ok (.invokevirtual 188, 3) := by decide +kernel
theorem dL_limits_300 : decode cL_limits 300 = .ok (.ifCond .eq 18, 3) := by decide +kernel
theorem dL_limits_303 : decode cL_limits 303 = .ok (.aload_n 0, 1) := by decide +kernel
theorem dL_limits_304 : decode cL_limits 304 = .ok (.iload_n 2, 1) := by decide +kernel
theorem dL_limits_305 : decode cL_limits 305 = .ok (.iconst 2, 1) := by decide +kernel
theorem dL_limits_306 : decode cL_limits 306 = .ok (.irem, 1) := by decide +kernel
theorem dL_limits_307 : decode cL_limits 307 = .ok (.invokevirtual 112, 3) := by decide +kernel
theorem dL_limits_310 : decode cL_limits 310 = .ok (.sipush 148, 3) := by decide +kernel
theorem dL_limits_313 : decode cL_limits 313 = .ok (.iload_n 2, 1) := by decide +kernel
theorem dL_limits_314 : decode cL_limits 314 = .ok (.iadd, 1) := by decide +kernel
theorem dL_limits_315 : decode cL_limits 315 = .ok (.if_icmp .eq 5, 3) := by decide +kernel
theorem dL_limits_318 : decode cL_limits 318 = .ok (.iconst 0, 1) := by decide +kernel
theorem dL_limits_319 : decode cL_limits 319 = .ok (.ireturn, 1) := by decide +kernel
theorem dL_limits_320 : decode cL_limits 320 = .ok (.iinc 2 1, 3) := by decide +kernel
theorem dL_limits_323 : decode cL_limits 323 = .ok (.goto (-33), 3) := by decide +kernel
theorem dL_limits_326 : decode cL_limits 326 = .ok (.aload_n 0, 1) := by decide +kernel
theorem dL_limits_327 : decode cL_limits 327 = .ok (.invokevirtual 188, 3) := by decide +kernel
theorem dL_limits_330 : decode cL_limits 330 = .ok (.ifCond .ne 45, 3) := by decide +kernel
theorem dL_limits_333 : decode cL_limits 333 = .ok (.aload_n 0, 1) := by decide +kernel
theorem dL_limits_334 : decode cL_limits 334 = .ok (.invokevirtual 152, 3) := by decide +kernel
theorem dL_limits_337 : decode cL_limits 337 = .ok (.ifCond .ne 38, 3) := by decide +kernel
theorem dL_limits_340 : decode cL_limits 340 = .ok (.aload_n 0, 1) := by decide +kernel
theorem dL_limits_341 : decode cL_limits 341 = .ok (.invokevirtual 143, 3) := by decide +kernel
theorem dL_limits_344 : decode cL_limits 344 = .ok (.ifCond .ne 31, 3) := by decide +kernel
theorem dL_limits_347 : decode cL_limits 347 = .ok (.aload_n 0, 1) := by decide +kernel
theorem dL_limits_348 : decode cL_limits 348 = .ok (.bipush 48, 2) := by decide +kernel
theorem dL_limits_350 : decode cL_limits 350 = .ok (.invokevirtual 115, 3) := by decide +kernel
theorem dL_limits_353 : decode cL_limits 353 = .ok (.iconst (-1), 1) := by decide +kernel
theorem dL_limits_354 : decode cL_limits 354 = .ok (.if_icmp .ne 21, 3) := by decide +kernel
theorem dL_limits_357 : decode cL_limits 357 = .ok (.aload_n 0, 1) := by decide +kernel
theorem dL_limits_358 : decode cL_limits 358 = .ok (.bipush 30, 2) := by decide +kernel
theorem dL_limits_360 : decode cL_limits 360 = .ok (.bipush 8, 2) := by decide +kernel
theorem dL_limits_362 : decode cL_limits 362 = .ok (.iconst 4, 1) := by decide +kernel
theorem dL_limits_363 : decode cL_limits 363 = .ok (.bipush 40, 2) := by decide +kernel
theorem dL_limits_365 : decode cL_limits 365 = .ok (.invokestatic 162, 3) := by decide +kernel
theorem dL_limits_368 : decode cL_limits 368 = .ok (.ifCond .eq 7, 3) := by decide +kernel
theorem dL_limits_371 : decode cL_limits 371 = .ok (.iconst 1, 1) := by decide +kernel
theorem dL_limits_372 : decode cL_limits 372 = .ok (.goto 4, 3) := by decide +kernel
theorem dL_limits_375 : decode cL_limits 375 = .ok (.iconst 0, 1) := by decide +kernel
theorem dL_limits_376 : decode cL_limits 376 = .ok (.ireturn, 1) := by decide +kernel
