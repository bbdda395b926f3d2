theorem dL_act_0 : decode cL_act 0 = .ok (.iload_n 1, 1) := by decide +kernel
theorem dL_act_1 : decode cL_act 1 = .ok (.ifCond .ne 18, 3) := by decide +kernel
theorem dL_act_4 : decode cL_act 4 = .ok (.aload_n 0, 1) := by decide +kernel
theorem dL_act_5 : decode cL_act 5 = .ok (.iload_n 2, 1) := by decide +kernel
theorem dL_act_6 : decode cL_act 6 = .ok (.iload_n 3, 1) := by decide +kernel
theorem dL_act_7 : decode cL_act 7 = .ok (.iload 4, 2) := by decide +kernel
theorem dL_act_9 : decode cL_act 9 = .ok (.iload 5, 2) := by decide +kernel
theorem dL_act_11 : decode cL_act 11 = .ok (.iload 6, 2) := by decide +kernel
theorem dL_act_13 : decode cL_act 13 = .ok (.invokevirtual 7, 3) := by decide +kernel
theorem dL_act_16 : decode cL_act 16 = .ok (.goto 329, 3) := by decide +kernel
theorem dL_act_19 : decode cL_act 19 = .ok (.iload_n 1, 1) := by decide +kernel
theorem dL_act_20 : decode cL_act 20 = .ok (.iconst 1, 1) := by decide +kernel
theorem dL_act_21 : decode cL_act 21 = .ok (.if_icmp .ne 18, 3) := by decide +kernel
theorem dL_act_24 : decode cL_act 24 = .ok (.aload_n 0, 1) := by decide +kernel
theorem dL_act_25 : decode cL_act 25 = .ok (.iload_n 2, 1) := by decide +kernel
theorem dL_act_26 : decode cL_act 26 = .ok (.iload_n 3, 1) := by decide +kernel
theorem dL_act_27 : decode cL_act 27 = .ok (.iload 4, 2) := by decide +kernel
theorem dL_act_29 : decode cL_act 29 = .ok (.iload 5, 2) := by decide +kernel
theorem dL_act_31 : decode cL_act 31 = .ok (.iload 6, 2) := by decide +kernel
theorem dL_act_33 : decode cL_act 33 = .ok (.invokevirtual 13, 3) := by decide +kernel
theorem dL_act_36 : decode cL_act 36 = .ok (.goto 309, 3) := by decide +kernel
theorem dL_act_39 : decode cL_act 39 = .ok (.iload_n 1, 1) := by decide +kernel
theorem dL_act_40 : decode cL_act 40 = .ok (.iconst 2, 1) := by decide +kernel
theorem dL_act_41 : decode cL_act 41 = .ok (.if_icmp .ne 11, 3) := by decide +kernel
theorem dL_act_44 : decode cL_act 44 = .ok (.aload_n 0, 1) := by decide +kernel
theorem dL_act_45 : decode cL_act 45 = .ok (.iload_n 2, 1) := by decide +kernel
theorem dL_act_46 : decode cL_act 46 = .ok (.invokevirtual 16, 3) := by decide +kernel
theorem dL_act_49 : decode cL_act 49 = .ok (.goto 296, 3) := by decide +kernel
theorem dL_act_52 : decode cL_act 52 = .ok (.iload_n 1, 1) := by decide +kernel
theorem dL_act_53 : decode cL_act 53 = .ok (.iconst 3, 1) := by decide +kernel
theorem dL_act_54 : decode cL_act 54 = .ok (.if_icmp .ne 11, 3) := by decide +kernel
theorem dL_act_57 : decode cL_act 57 = .ok (.aload_n 0, 1) := by decide +kernel
theorem dL_act_58 : decode cL_act 58 = .ok (.iload_n 2, 1) := by decide +kernel
theorem dL_act_59 : decode cL_act 59 = .ok (.invokevirtual 20, 3) := by decide +kernel
theorem dL_act_62 : decode cL_act 62 = .ok (.goto 283, 3) := by decide +kernel
theorem dL_act_65 : decode cL_act 65 = .ok (.iload_n 1, 1) := by decide +kernel
theorem dL_act_66 : decode cL_act 66 = .ok (.iconst 4, 1) := by decide +kernel
theorem dL_act_67 : decode cL_act 67 = .ok (.if_icmp .ne 12, 3) := by decide +kernel
theorem dL_act_70 : decode cL_act 70 = .ok (.aload_n 0, 1) := by decide +kernel
theorem dL_act_71 : decode cL_act 71 = .ok (.iload_n 2, 1) := by decide +kernel
theorem dL_act_72 : decode cL_act 72 = .ok (.iload_n 3, 1) := by decide +kernel
theorem dL_act_73 : decode cL_act 73 = .ok (.invokevirtual 23, 3) := by decide +kernel
theorem dL_act_76 : decode cL_act 76 = .ok (.goto 269, 3) := by decide +kernel
theorem dL_act_79 : decode cL_act 79 = .ok (.iload_n 1, 1) := by decide +kernel
theorem dL_act_80 : decode cL_act 80 = .ok (.iconst 5, 1) := by decide +kernel
theorem dL_act_81 : decode cL_act 81 = .ok (.if_icmp .ne 12, 3) := by decide +kernel
theorem dL_act_84 : decode cL_act 84 = .ok (.aload_n 0, 1) := by decide +kernel
theorem dL_act_85 : decode cL_act 85 = .ok (.iload_n 2, 1) := by decide +kernel
theorem dL_act_86 : decode cL_act 86 = .ok (.iload_n 3, 1) := by decide +kernel
theorem dL_act_87 : decode cL_act 87 = .ok (.invokevirtual 27, 3) := by decide +kernel
theorem dL_act_90 : decode cL_act 90 = .ok (.goto 255, 3) := by decide +kernel
theorem dL_act_93 : decode cL_act 93 = .ok (.iload_n 1, 1) := by decide +kernel
theorem dL_act_94 : decode cL_act 94 = .ok (.bipush 6, 2) := by decide +kernel
theorem dL_act_96 : decode cL_act 96 = .ok (.if_icmp .ne 14, 3) := by decide +kernel
theorem dL_act_99 : decode cL_act 99 = .ok (.aload_n 0, 1) := by decide +kernel
theorem dL_act_100 : decode cL_act 100 = .ok (.iload_n 2, 1) := by decide +kernel
theorem dL_act_101 : decode cL_act 101 = .ok (.iload_n 3, 1) := by decide +kernel
theorem dL_act_102 : decode cL_act 102 = .ok (.iload 4, 2) := by decide +kernel
theorem dL_act_104 : decode cL_act 104 = .ok (.invokevirtual 30, 3) := by decide +kernel
theorem dL_act_107 : decode cL_act 107 = .ok (.goto 238, 3) := by decide +kernel
theorem dL_act_110 : decode cL_act 110 = .ok (.iload_n 1, 1) := by decide +kernel
theorem dL_act_111 : decode cL_act 111 = .ok (.bipush 7, 2) := by decide +kernel
theorem dL_act_113 : decode cL_act 113 = .ok (.if_icmp .ne 11, 3) := by decide +kernel
theorem dL_act_116 : decode cL_act 116 = .ok (.aload_n 0, 1) := by decide +kernel
theorem dL_act_117 : decode cL_act 117 = .ok (.iload_n 2, 1) := by decide +kernel
theorem dL_act_118 : decode cL_act 118 = .ok (.invokevirtual 34, 3) := by decide +kernel
theorem dL_act_121 : decode cL_act 121 = .ok (.goto 224, 3) := by decide +kernel
theorem dL_act_124 : decode cL_act 124 = .ok (.iload_n 1, 1) := by decide +kernel
theorem dL_act_125 : decode cL_act 125 = .ok (.bipush 8, 2) := by decide +kernel
theorem dL_act_127 : decode cL_act 127 = .ok (.if_icmp .ne 11, 3) := by decide +kernel
theorem dL_act_130 : decode cL_act 130 = .ok (.aload_n 0, 1) := by decide +kernel
theorem dL_act_131 : decode cL_act 131 = .ok (.iload_n 2, 1) := by decide +kernel
theorem dL_act_132 : decode cL_act 132 = .ok (.invokevirtual 37, 3) := by decide +kernel
theorem dL_act_135 : decode cL_act 135 = .ok (.goto 210, 3) := by decide +kernel
theorem dL_act_138 : decode cL_act 138 = .ok (.iload_n 1, 1) := by decide +kernel
theorem dL_act_139 : decode cL_act 139 = .ok (.bipush 9, 2) := by decide +kernel
theorem dL_act_141 : decode cL_act 141 = .ok (.if_icmp .ne 11, 3) := by decide +kernel
theorem dL_act_144 : decode cL_act 144 = .ok (.aload_n 0, 1) := by decide +kernel
theorem dL_act_145 : decode cL_act 145 = .ok (.iload_n 2, 1) := by decide +kernel
theorem dL_act_146 : decode cL_act 146 = .ok (.invokevirtual 40, 3) := by decide +kernel
theorem dL_act_149 : decode cL_act 149 = .ok (.goto 196, 3) := by decide +kernel
theorem dL_act_152 : decode cL_act 152 = .ok (.iload_n 1, 1) := by decide +kernel
theorem dL_act_153 : decode cL_act 153 = .ok (.bipush 10, 2) := by decide +kernel
theorem dL_act_155 : decode cL_act 155 = .ok (.if_icmp .ne 11, 3) := by decide +kernel
theorem dL_act_158 : decode cL_act 158 = .ok (.aload_n 0, 1) := by decide +kernel
theorem dL_act_159 : decode cL_act 159 = .ok (.iload_n 2, 1) := by decide +kernel
theorem dL_act_160 : decode cL_act 160 = .ok (.invokevirtual 43, 3) := by decide +kernel
theorem dL_act_163 : decode cL_act 163 = .ok (.goto 182, 3) := by decide +kernel
theorem dL_act_166 : decode cL_act 166 = .ok (.iload_n 1, 1) := by decide +kernel
theorem dL_act_167 : decode cL_act 167 = .ok (.bipush 11, 2) := by decide +kernel
theorem dL_act_169 : decode cL_act 169 = .ok (.if_icmp .ne 11, 3) := by decide +kernel
theorem dL_act_172 : decode cL_act 172 = .ok (.aload_n 0, 1) := by decide +kernel
theorem dL_act_173 : decode cL_act 173 = .ok (.iload_n 2, 1) := by decide +kernel
theorem dL_act_174 : decode cL_act 174 = .ok (.invokevirtual 46, 3) := by decide +kernel
theorem dL_act_177 : decode cL_act 177 = .ok (.goto 168, 3) := by decide +kernel
theorem dL_act_180 : decode cL_act 180 = .ok (.iload_n 1, 1) := by decide +kernel
theorem dL_act_181 : decode cL_act 181 = .ok (.bipush 12, 2) := by decide +kernel
theorem dL_act_183 : decode cL_act 183 = .ok (.if_icmp .ne 14, 3) := by decide +kernel
theorem dL_act_186 : decode cL_act 186 = .ok (.aload_n 0, 1) := by decide +kernel
theorem dL_act_187 : decode cL_act 187 = .ok (.iload_n 2, 1) := by decide +kernel
theorem dL_act_188 : decode cL_act 188 = .ok (.iload_n 3, 1) := by decide +kernel
theorem dL_act_189 : decode cL_act 189 = .ok (.iload 4, 2) := by decide +kernel
theorem dL_act_191 : decode cL_act 191 = .ok (.invokevirtual 49, 3) := by decide +kernel
theorem dL_act_194 : decode cL_act 194 = .ok (.goto 151, 3) := by decide +kernel
theorem dL_act_197 : decode cL_act 197 = .ok (.iload_n 1, 1) := by decide +kernel
theorem dL_act_198 : decode cL_act 198 = .ok (.bipush 13, 2) := by decide +kernel
theorem dL_act_200 : decode cL_act 200 = .ok (.if_icmp .ne 11, 3) := by decide +kernel
theorem dL_act_203 : decode cL_act 203 = .ok (.aload_n 0, 1) := by decide +kernel
theorem dL_act_204 : decode cL_act 204 = .ok (.iload_n 2, 1) := by decide +kernel
theorem dL_act_205 : decode cL_act 205 = .ok (.invokevirtual 52, 3) := by decide +kernel
theorem dL_act_208 : decode cL_act 208 = .ok (.goto 137, 3) := by decide +kernel
theorem dL_act_211 : decode cL_act 211 = .ok (.iload_n 1, 1) := by decide +kernel
theorem dL_act_212 : decode cL_act 212 = .ok (.bipush 14, 2) := by decide +kernel
theorem dL_act_214 : decode cL_act 214 = .ok (.if_icmp .ne 16, 3) := by decide +kernel
theorem dL_act_217 : decode cL_act 217 = .ok (.aload_n 0, 1) := by decide +kernel
theorem dL_act_218 : decode cL_act 218 = .ok (.iload_n 2, 1) := by decide +kernel
theorem dL_act_219 : decode cL_act 219 = .ok (.iload_n 3, 1) := by decide +kernel
theorem dL_act_220 : decode cL_act 220 = .ok (.iload 4, 2) := by decide +kernel
theorem dL_act_222 : decode cL_act 222 = .ok (.iload 5, 2) := by decide +kernel
theorem dL_act_224 : decode cL_act 224 = .ok (.invokestatic 55, 3) := by decide +kernel
theorem dL_act_227 : decode cL_act 227 = .ok (.goto 118, 3) := by decide +kernel
theorem dL_act_230 : decode cL_act 230 = .ok (.iload_n 1, 1) := by decide +kernel
theorem dL_act_231 : decode cL_act 231 = .ok (.bipush 15, 2) := by decide +kernel
theorem dL_act_233 : decode cL_act 233 = .ok (.if_icmp .ne 11, 3) := by decide +kernel
theorem dL_act_236 : decode cL_act 236 = .ok (.aload_n 0, 1) := by decide +kernel
theorem dL_act_237 : decode cL_act 237 = .ok (.iload_n 2, 1) := by decide +kernel
theorem dL_act_238 : decode cL_act 238 = .ok (.invokevirtual 61, 3) := by decide +kernel
theorem dL_act_241 : decode cL_act 241 = .ok (.goto 104, 3) := by decide +kernel
theorem dL_act_244 : decode cL_act 244 = .ok (.iload_n 1, 1) := by decide +kernel
theorem dL_act_245 : decode cL_act 245 = .ok (.bipush 16, 2) := by decide +kernel
theorem dL_act_247 : decode cL_act 247 = .ok (.if_icmp .ne 14, 3) := by decide +kernel
theorem dL_act_250 : decode cL_act 250 = .ok (.aload_n 0, 1) := by decide +kernel
theorem dL_act_251 : decode cL_act 251 = .ok (.iload_n 2, 1) := by decide +kernel
theorem dL_act_252 : decode cL_act 252 = .ok (.iload_n 3, 1) := by decide +kernel
theorem dL_act_253 : decode cL_act 253 = .ok (.iload 4, 2) := by decide +kernel
theorem dL_act_255 : decode cL_act 255 = .ok (.invokevirtual 64, 3) := by decide +kernel
theorem dL_act_258 : decode cL_act 258 = .ok (.goto 87, 3) := by decide +kernel
theorem dL_act_261 : decode cL_act 261 = .ok (.iload_n 1, 1) := by decide +kernel
theorem dL_act_262 : decode cL_act 262 = .ok (.bipush 17, 2) := by decide +kernel
theorem dL_act_264 : decode cL_act 264 = .ok (.if_icmp .ne 12, 3) := by decide +kernel
theorem dL_act_267 : decode cL_act 267 = .ok (.aload_n 0, 1) := by decide +kernel
theorem dL_act_268 : decode cL_act 268 = .ok (.iload_n 2, 1) := by decide +kernel
theorem dL_act_269 : decode cL_act 269 = .ok (.iload_n 3, 1) := by decide +kernel
theorem dL_act_270 : decode cL_act 270 = .ok (.invokevirtual 67, 3) := by decide +kernel
theorem dL_act_273 : decode cL_act 273 = .ok (.goto 72, 3) := by decide +kernel
theorem dL_act_276 : decode cL_act 276 = .ok (.iload_n 1, 1) := by decide +kernel
theorem dL_act_277 : decode cL_act 277 = .ok (.bipush 18, 2) := by decide +kernel
theorem dL_act_279 : decode cL_act 279 = .ok (.if_icmp .ne 14, 3) := by decide +kernel
theorem dL_act_282 : decode cL_act 282 = .ok (.aload_n 0, 1) := by decide +kernel
theorem dL_act_283 : decode cL_act 283 = .ok (.iload_n 2, 1) := by decide +kernel
theorem dL_act_284 : decode cL_act 284 = .ok (.iload_n 3, 1) := by decide +kernel
theorem dL_act_285 : decode cL_act 285 = .ok (.iload 4, 2) := by decide +kernel
theorem dL_act_287 : decode cL_act 287 = .ok (.invokevirtual 70, 3) := by decide +kernel
theorem dL_act_290 : decode cL_act 290 = .ok (.goto 55, 3) := by decide +kernel
theorem dL_act_293 : decode cL_act 293 = .ok (.iload_n 1, 1) := by decide +kernel
theorem dL_act_294 : decode cL_act 294 = .ok (.bipush 19, 2) := by decide +kernel
theorem dL_act_296 : decode cL_act 296 = .ok (.if_icmp .ne 11, 3) := by decide +kernel
theorem dL_act_299 : decode cL_act 299 = .ok (.aload_n 0, 1) := by decide +kernel
theorem dL_act_300 : decode cL_act 300 = .ok (.iload_n 2, 1) := by decide +kernel
theorem dL_act_301 : decode cL_act 301 = .ok (.invokevirtual 73, 3) := by decide +kernel
theorem dL_act_304 : decode cL_act 304 = .ok (.goto 41, 3) := by decide +kernel
theorem dL_act_307 : decode cL_act 307 = .ok (.iload_n 1, 1) := by decide +kernel
theorem dL_act_308 : decode cL_act 308 = .ok (.bipush 20, 2) := by decide +kernel
theorem dL_act_310 : decode cL_act 310 = .ok (.if_icmp .ne 12, 3) := by decide +kernel
theorem dL_act_313 : decode cL_act 313 = .ok (.aload_n 0, 1) := by decide +kernel
theorem dL_act_314 : decode cL_act 314 = .ok (.iload_n 2, 1) := by decide +kernel
theorem dL_act_315 : decode cL_act 315 = .ok (.iload_n 3, 1) := by decide +kernel
theorem dL_act_316 : decode cL_act 316 = .ok (.invokevirtual 76, 3) := by decide +kernel
theorem dL_act_319 : decode cL_act 319 = .ok (.goto 26, 3) := by decide +kernel
theorem dL_act_322 : decode cL_act 322 = .ok (.iload_n 1, 1) := by decide +kernel
theorem dL_act_323 : decode cL_act 323 = .ok (.bipush 21, 2) := by decide +kernel
theorem dL_act_325 : decode cL_act 325 = .ok (.if_icmp .ne 11, 3) := by decide +kernel
theorem dL_act_328 : decode cL_act 328 = .ok (.aload_n 0, 1) := by decide +kernel
theorem dL_act_329 : decode cL_act 329 = .ok (.iload_n 2, 1) := by decide +kernel
theorem dL_act_330 : decode cL_act 330 = .ok (.invokevirtual 79, 3) := by decide +kernel
theorem dL_act_333 : decode cL_act 333 = .ok (.goto 12, 3) := by decide +kernel
theorem dL_act_336 : decode cL_act 336 = .ok (.aload_n 0, 1) := by decide +kernel
theorem dL_act_337 : decode cL_act 337 = .ok (.iload_n 1, 1) := by decide +kernel
theorem dL_act_338 : decode cL_act 338 = .ok (.iload_n 2, 1) := by decide +kernel
theorem dL_act_339 : decode cL_act 339 = .ok (.iload_n 3, 1) := by decide +kernel
theorem dL_act_340 : decode cL_act 340 = .ok (.iload 4, 2) := by decide +kernel
theorem dL_act_342 : decode cL_act 342 = .ok (.invokestatic 82, 3) := by decide +kernel
theorem dL_act_345 : decode cL_act 345 = .ok (.ireturn, 1) := by decide +kernel
theorem dL_act_346 : decode cL_act 346 = .ok (.astore 7, 2) := by decide +kernel
theorem dL_act_348 : decode cL_act 348 = .ok (.bipush (-71), 2) := by decide +kernel
theorem dL_act_350 : decode cL_act 350 = .ok (.ireturn, 1) := by decide +kernel
theorem dL_act_351 : decode cL_act 351 = .ok (.astore 7, 2) := by decide +kernel
theorem dL_act_353 : decode cL_act 353 = .ok (.bipush (-72), 2) := by decide +kernel
theorem dL_act_355 : decode cL_act 355 = .ok (.ireturn, 1) := by decide +kernel
theorem dL_act_356 : decode cL_act 356 = .ok (.astore 7, 2) := by decide +kernel
theorem dL_act_358 : decode cL_act 358 = .ok (.bipush (-73), 2) := by decide +kernel
theorem dL_act_360 : decode cL_act 360 = .ok (.ireturn, 1) := by decide +kernel
theorem dL_types_0 : decode cL_types 0 = .ok (.aload_n 0, 1) := by decide +kernel
theorem dL_types_1 : decode cL_types 1 = .ok (.iload_n 1, 1) := by decide +kernel
theorem dL_types_2 : decode cL_types 2 = .ok (.iload_n 2, 1) := by decide +kernel
theorem dL_types_3 : decode cL_types 3 = .ok (.iload_n 3, 1) := by decide +kernel
theorem dL_types_4 : decode cL_types 4 = .ok (.iload 4, 2) := by decide +kernel
theorem dL_types_6 : decode cL_types 6 = .ok (.iconst 0, 1) := by decide +kernel
theorem dL_types_7 : decode cL_types 7 = .ok (.iconst 0, 1) := by decide +kernel
theorem dL_types_8 : decode cL_types 8 = .ok (.invokevirtual 91, 3) := by decide +kernel
theorem dL_types_11 : decode cL_types 11 = .ok (.iconst 0, 1) := by decide +kernel
theorem dL_types_12 : decode cL_types 12 = .ok (.ireturn, 1) := by decide +kernel
theorem dL_more_0 : decode cL_more 0 = .ok (.iload_n 1, 1) := by decide +kernel
theorem dL_more_1 : decode cL_more 1 = .ok (.bipush 22, 2) := by decide +kernel
theorem dL_more_3 : decode cL_more 3 = .ok (.if_icmp .ne 12, 3) := by decide +kernel
theorem dL_more_6 : decode cL_more 6 = .ok (.aload_n 0, 1) := by decide +kernel
theorem dL_more_7 : decode cL_more 7 = .ok (.iload_n 2, 1) := by decide +kernel
theorem dL_more_8 : decode cL_more 8 = .ok (.iload_n 3, 1) := by decide +kernel
theorem dL_more_9 : decode cL_more 9 = .ok (.invokevirtual 95, 3) := by decide +kernel
theorem dL_more_12 : decode cL_more 12 = .ok (.goto 229, 3) := by decide +kernel
theorem dL_more_15 : decode cL_more 15 = .ok (.iload_n 1, 1) := by decide +kernel
theorem dL_more_16 : decode cL_more 16 = .ok (.bipush 23, 2) := by decide +kernel
theorem dL_more_18 : decode cL_more 18 = .ok (.if_icmp .ne 20, 3) := by decide +kernel
theorem dL_more_21 : decode cL_more 21 = .ok (.aload_n 0, 1) := by decide +kernel
theorem dL_more_22 : decode cL_more 22 = .ok (.iload_n 2, 1) := by decide +kernel
theorem dL_more_23 : decode cL_more 23 = .ok (.iload_n 3, 1) := by decide +kernel
theorem dL_more_24 : decode cL_more 24 = .ok (.invokevirtual 98, 3) := by decide +kernel
theorem dL_more_27 : decode cL_more 27 = .ok (.ifCond .eq 7, 3) := by decide +kernel
theorem dL_more_30 : decode cL_more 30 = .ok (.iconst 1, 1) := by decide +kernel
theorem dL_more_31 : decode cL_more 31 = .ok (.goto 210, 3) := by decide +kernel
theorem dL_more_34 : decode cL_more 34 = .ok (.iconst 0, 1) := by decide +kernel
theorem dL_more_35 : decode cL_more 35 = .ok (.goto 206, 3) := by decide +kernel
theorem dL_more_38 : decode cL_more 38 = .ok (.iload_n 1, 1) := by decide +kernel
theorem dL_more_39 : decode cL_more 39 = .ok (.bipush 24, 2) := by decide +kernel
theorem dL_more_41 : decode cL_more 41 = .ok (.if_icmp .ne 19, 3) := by decide +kernel
theorem dL_more_44 : decode cL_more 44 = .ok (.aload_n 0, 1) := by decide +kernel
theorem dL_more_45 : decode cL_more 45 = .ok (.iload_n 2, 1) := by decide +kernel
theorem dL_more_46 : decode cL_more 46 = .ok (.invokevirtual 102, 3) := by decide +kernel
theorem dL_more_49 : decode cL_more 49 = .ok (.ifCond .eq 7, 3) := by decide +kernel
theorem dL_more_52 : decode cL_more 52 = .ok (.iconst 1, 1) := by decide +kernel
theorem dL_more_53 : decode cL_more 53 = .ok (.goto 188, 3) := by decide +kernel
theorem dL_more_56 : decode cL_more 56 = .ok (.iconst 0, 1) := by decide +kernel
theorem dL_more_57 : decode cL_more 57 = .ok (.goto 184, 3) := by decide +kernel
theorem dL_more_60 : decode cL_more 60 = .ok (.iload_n 1, 1) := by decide +kernel
theorem dL_more_61 : decode cL_more 61 = .ok (.bipush 25, 2) := by decide +kernel
theorem dL_more_63 : decode cL_more 63 = .ok (.if_icmp .ne 19, 3) := by decide +kernel
theorem dL_more_66 : decode cL_more 66 = .ok (.aload_n 0, 1) := by decide +kernel
theorem dL_more_67 : decode cL_more 67 = .ok (.iload_n 2, 1) := by decide +kernel
theorem dL_more_68 : decode cL_more 68 = .ok (.invokevirtual 106, 3) := by decide +kernel
theorem dL_more_71 : decode cL_more 71 = .ok (.ifCond .eq 7, 3) := by decide +kernel
theorem dL_more_74 : decode cL_more 74 = .ok (.iconst 1, 1) := by decide +kernel
theorem dL_more_75 : decode cL_more 75 = .ok (.goto 166, 3) := by decide +kernel
theorem dL_more_78 : decode cL_more 78 = .ok (.iconst 0, 1) := by decide +kernel
theorem dL_more_79 : decode cL_more 79 = .ok (.goto 162, 3) := by decide +kernel
theorem dL_more_82 : decode cL_more 82 = .ok (.iload_n 1, 1) := by decide +kernel
theorem dL_more_83 : decode cL_more 83 = .ok (.bipush 26, 2) := by decide +kernel
theorem dL_more_85 : decode cL_more 85 = .ok (.if_icmp .ne 11, 3) := by decide +kernel
theorem dL_more_88 : decode cL_more 88 = .ok (.aload_n 0, 1) := by decide +kernel
theorem dL_more_89 : decode cL_more 89 = .ok (.iload_n 2, 1) := by decide +kernel
theorem dL_more_90 : decode cL_more 90 = .ok (.invokevirtual 109, 3) := by decide +kernel
theorem dL_more_93 : decode cL_more 93 = .ok (.goto 148, 3) := by decide +kernel
theorem dL_more_96 : decode cL_more 96 = .ok (.iload_n 1, 1) := by decide +kernel
theorem dL_more_97 : decode cL_more 97 = .ok (.bipush 27, 2) := by decide +kernel
theorem dL_more_99 : decode cL_more 99 = .ok (.if_icmp .ne 11, 3) := by decide +kernel
theorem dL_more_102 : decode cL_more 102 = .ok (.aload_n 0, 1) := by decide +kernel
theorem dL_more_103 : decode cL_more 103 = .ok (.iload_n 2, 1) := by decide +kernel
theorem dL_more_104 : decode cL_more 104 = .ok (.invokevirtual 112, 3) := by decide +kernel
theorem dL_more_107 : decode cL_more 107 = .ok (.goto 134, 3) := by decide +kernel
theorem dL_more_110 : decode cL_more 110 = .ok (.iload_n 1, 1) := by decide +kernel
theorem dL_more_111 : decode cL_more 111 = .ok (.bipush 28, 2) := by decide +kernel
theorem dL_more_113 : decode cL_more 113 = .ok (.if_icmp .ne 11, 3) := by decide +kernel
theorem dL_more_116 : decode cL_more 116 = .ok (.aload_n 0, 1) := by decide +kernel
theorem dL_more_117 : decode cL_more 117 = .ok (.iload_n 2, 1) := by decide +kernel
theorem dL_more_118 : decode cL_more 118 = .ok (.invokevirtual 115, 3) := by decide +kernel
theorem dL_more_121 : decode cL_more 121 = .ok (.goto 120, 3) := by decide +kernel
theorem dL_more_124 : decode cL_more 124 = .ok (.iload_n 1, 1) := by decide +kernel
theorem dL_more_125 : decode cL_more 125 = .ok (.bipush 29, 2) := by decide +kernel
theorem dL_more_127 : decode cL_more 127 = .ok (.if_icmp .ne 12, 3) := by decide +kernel
theorem dL_more_130 : decode cL_more 130 = .ok (.aload_n 0, 1) := by decide +kernel
theorem dL_more_131 : decode cL_more 131 = .ok (.iload_n 2, 1) := by decide +kernel
theorem dL_more_132 : decode cL_more 132 = .ok (.iload_n 3, 1) := by decide +kernel
theorem dL_more_133 : decode cL_more 133 = .ok (.invokevirtual 118, 3) := by decide +kernel
theorem dL_more_136 : decode cL_more 136 = .ok (.goto 105, 3) := by decide +kernel
theorem dL_more_139 : decode cL_more 139 = .ok (.iload_n 1, 1) := by decide +kernel
theorem dL_more_140 : decode cL_more 140 = .ok (.bipush 30, 2) := by decide +kernel
theorem dL_more_142 : decode cL_more 142 = .ok (.if_icmp .ne 12, 3) := by decide +kernel
theorem dL_more_145 : decode cL_more 145 = .ok (.aload_n 0, 1) := by decide +kernel
theorem dL_more_146 : decode cL_more 146 = .ok (.iload_n 2, 1) := by decide +kernel
theorem dL_more_147 : decode cL_more 147 = .ok (.iload_n 3, 1) := by decide +kernel
theorem dL_more_148 : decode cL_more 148 = .ok (.invokevirtual 121, 3) := by decide +kernel
theorem dL_more_151 : decode cL_more 151 = .ok (.goto 90, 3) := by decide +kernel
theorem dL_more_154 : decode cL_more 154 = .ok (.iload_n 1, 1) := by decide +kernel
theorem dL_more_155 : decode cL_more 155 = .ok (.bipush 31, 2) := by decide +kernel
theorem dL_more_157 : decode cL_more 157 = .ok (.if_icmp .ne 14, 3) := by decide +kernel
theorem dL_more_160 : decode cL_more 160 = .ok (.aload_n 0, 1) := by decide +kernel
theorem dL_more_161 : decode cL_more 161 = .ok (.iload_n 2, 1) := by decide +kernel
theorem dL_more_162 : decode cL_more 162 = .ok (.iload_n 3, 1) := by decide +kernel
theorem dL_more_163 : decode cL_more 163 = .ok (.iload 4, 2) := by decide +kernel
theorem dL_more_165 : decode cL_more 165 = .ok (.invokevirtual 124, 3) := by decide +kernel
theorem dL_more_168 : decode cL_more 168 = .ok (.goto 73, 3) := by decide +kernel
theorem dL_more_171 : decode cL_more 171 = .ok (.iload_n 1, 1) := by decide +kernel
theorem dL_more_172 : decode cL_more 172 = .ok (.bipush 32, 2) := by decide +kernel
theorem dL_more_174 : decode cL_more 174 = .ok (.if_icmp .ne 19, 3) := by decide +kernel
theorem dL_more_177 : decode cL_more 177 = .ok (.aload_n 0, 1) := by decide +kernel
theorem dL_more_178 : decode cL_more 178 = .ok (.iload_n 2, 1) := by decide +kernel
theorem dL_more_179 : decode cL_more 179 = .ok (.invokevirtual 127, 3) := by decide +kernel
theorem dL_more_182 : decode cL_more 182 = .ok (.ifCond .eq 7, 3) := by decide +kernel
theorem dL_more_185 : decode cL_more 185 = .ok (.iconst 1, 1) := by decide +kernel
theorem dL_more_186 : decode cL_more 186 = .ok (.goto 55, 3) := by decide +kernel
theorem dL_more_189 : decode cL_more 189 = .ok (.iconst 0, 1) := by decide +kernel
theorem dL_more_190 : decode cL_more 190 = .ok (.goto 51, 3) := by decide +kernel
theorem dL_more_193 : decode cL_more 193 = .ok (.iload_n 1, 1) := by decide +kernel
theorem dL_more_194 : decode cL_more 194 = .ok (.bipush 33, 2) := by decide +kernel
theorem dL_more_196 : decode cL_more 196 = .ok (.if_icmp .ne 11, 3) := by decide +kernel
theorem dL_more_199 : decode cL_more 199 = .ok (.aload_n 0, 1) := by decide +kernel
theorem dL_more_200 : decode cL_more 200 = .ok (.iload_n 2, 1) := by decide +kernel
theorem dL_more_201 : decode cL_more 201 = .ok (.invokevirtual 130, 3) := by decide +kernel
theorem dL_more_204 : decode cL_more 204 = .ok (.goto 37, 3) := by decide +kernel
theorem dL_more_207 : decode cL_more 207 = .ok (.iload_n 1, 1) := by decide +kernel
theorem dL_more_208 : decode cL_more 208 = .ok (.bipush 34, 2) := by decide +kernel
theorem dL_more_210 : decode cL_more 210 = .ok (.if_icmp .ne 10, 3) := by decide +kernel
theorem dL_more_213 : decode cL_more 213 = .ok (.aload_n 0, 1) := by decide +kernel
theorem dL_more_214 : decode cL_more 214 = .ok (.invokevirtual 133, 3) := by decide +kernel
theorem dL_more_217 : decode cL_more 217 = .ok (.goto 24, 3) := by decide +kernel
theorem dL_more_220 : decode cL_more 220 = .ok (.iload_n 1, 1) := by decide +kernel
theorem dL_more_221 : decode cL_more 221 = .ok (.bipush 35, 2) := by decide +kernel
theorem dL_more_223 : decode cL_more 223 = .ok (.if_icmp .ne 12, 3) := by decide +kernel
theorem dL_more_226 : decode cL_more 226 = .ok (.aload_n 0, 1) := by decide +kernel
theorem dL_more_227 : decode cL_more 227 = .ok (.iload_n 2, 1) := by decide +kernel
theorem dL_more_228 : decode cL_more 228 = .ok (.iload_n 3, 1) := by decide +kernel
theorem dL_more_229 : decode cL_more 229 = .ok (.invokevirtual 137, 3) := by decide +kernel
theorem dL_more_232 : decode cL_more 232 = .ok (.goto 9, 3) := by decide +kernel
theorem dL_more_235 : decode cL_more 235 = .ok (.aload_n 0, 1) := by decide +kernel
theorem dL_more_236 : decode cL_more 236 = .ok (.iload_n 2, 1) := by decide +kernel
theorem dL_more_237 : decode cL_more 237 = .ok (.iload_n 3, 1) := by decide +kernel
theorem dL_more_238 : decode cL_more 238 = .ok (.invokevirtual 140, 3) := by decide +kernel
theorem dL_more_241 : decode cL_more 241 = .ok (.ireturn, 1) := by decide +kernel
theorem dL_sets_0 : decode cL_sets 0 = .ok (.aload_n 0, 1) := by decide +kernel
theorem dL_sets_1 : decode cL_sets 1 = .ok (.iload_n 1, 1) := by decide +kernel
theorem dL_sets_2 : decode cL_sets 2 = .ok (.invokevirtual 43, 3) := by decide +kernel
theorem dL_sets_5 : decode cL_sets 5 = .ok (.iload_n 2, 1) := by decide +kernel
theorem dL_sets_6 : decode cL_sets 6 = .ok (.if_icmp .ne 16, 3) := by decide +kernel
theorem dL_sets_9 : decode cL_sets 9 = .ok (.aload_n 0, 1) := by decide +kernel
theorem dL_sets_10 : decode cL_sets 10 = .ok (.iload_n 1, 1) := by decide +kernel
theorem dL_sets_11 : decode cL_sets 11 = .ok (.invokevirtual 46, 3) := by decide +kernel
theorem dL_sets_14 : decode cL_sets 14 = .ok (.iload_n 2, 1) := by decide +kernel
theorem dL_sets_15 : decode cL_sets 15 = .ok (.if_icmp .ne 7, 3) := by decide +kernel
theorem dL_sets_18 : decode cL_sets 18 = .ok (.iconst 1, 1) := by decide +kernel
theorem dL_sets_19 : decode cL_sets 19 = .ok (.goto 4, 3) := by decide +kernel
theorem dL_sets_22 : decode cL_sets 22 = .ok (.iconst 0, 1) := by decide +kernel
theorem dL_sets_23 : decode cL_sets 23 = .ok (.ireturn, 1) := by decide +kernel
theorem dL_begins_0 : decode cL_begins 0 = .ok (.aload_n 0, 1) := by decide +kernel
theorem dL_begins_1 : decode cL_begins 1 = .ok (.iload_n 1, 1) := by decide +kernel
theorem dL_begins_2 : decode cL_begins 2 = .ok (.iconst 3, 1) := by decide +kernel
theorem dL_begins_3 : decode cL_begins 3 = .ok (.irem, 1) := by decide +kernel
theorem dL_begins_4 : decode cL_begins 4 = .ok (.invokevirtual 79, 3) := by decide +kernel
theorem dL_begins_7 : decode cL_begins 7 = .ok (.iload_n 1, 1) := by decide +kernel
theorem dL_begins_8 : decode cL_begins 8 = .ok (.if_icmp .ne 24, 3) := by decide +kernel
theorem dL_begins_11 : decode cL_begins 11 = .ok (.aload_n 0, 1) := by decide +kernel
theorem dL_begins_12 : decode cL_begins 12 = .ok (.iload_n 1, 1) := by decide +kernel
theorem dL_begins_13 : decode cL_begins 13 = .ok (.iload_n 1, 1) := by decide +kernel
theorem dL_begins_14 : decode cL_begins 14 = .ok (.iconst 1, 1) := by decide +kernel
theorem dL_begins_15 : decode cL_begins 15 = .ok (.iadd, 1) := by decide +kernel
theorem dL_begins_16 : decode cL_begins 16 = .ok (.iconst 3, 1) := by decide +kernel
theorem dL_begins_17 : decode cL_begins 17 = .ok (.irem, 1) := by decide +kernel
theorem dL_begins_18 : decode cL_begins 18 = .ok (.invokevirtual 98, 3) := by decide +kernel
theorem dL_begins_21 : decode cL_begins 21 = .ok (.ifCond .eq 11, 3) := by decide +kernel
theorem dL_begins_24 : decode cL_begins 24 = .ok (.aload_n 0, 1) := by decide +kernel
theorem dL_begins_25 : decode cL_begins 25 = .ok (.iload_n 1, 1) := by decide +kernel
theorem dL_begins_26 : decode cL_begins 26 = .ok (.invokevirtual 109, 3) := by decide +kernel
theorem dL_begins_29 : decode cL_begins 29 = .ok (.goto 5, 3) := by decide +kernel
theorem dL_begins_32 : decode cL_begins 32 = .ok (.bipush (-9), 2) := by decide +kernel
theorem dL_begins_34 : decode cL_begins 34 = .ok (.ireturn, 1) := by decide +kernel
theorem dL_has_0 : decode cL_has 0 = .ok (.aload_n 0, 1) := by decide +kernel
theorem dL_has_1 : decode cL_has 1 = .ok (.iload_n 1, 1) := by decide +kernel
theorem dL_has_2 : decode cL_has 2 = .ok (.invokevirtual 115, 3) := by decide +kernel
theorem dL_has_5 : decode cL_has 5 = .ok (.iload_n 2, 1) := by decide +kernel
theorem dL_has_6 : decode cL_has 6 = .ok (.if_icmp .ne 39, 3) := by decide +kernel
theorem dL_has_9 : decode cL_has 9 = .ok (.aload_n 0, 1) := by decide +kernel
theorem dL_has_10 : decode cL_has 10 = .ok (.iload_n 1, 1) := by decide +kernel
theorem dL_has_11 : decode cL_has 11 = .ok (.iconst 0, 1) := by decide +kernel
theorem dL_has_12 : decode cL_has 12 = .ok (.invokevirtual 118, 3) := by decide +kernel
theorem dL_has_15 : decode cL_has 15 = .ok (.iload_n 3, 1) := by decide +kernel
theorem dL_has_16 : decode cL_has 16 = .ok (.if_icmp .ne 29, 3) := by decide +kernel
theorem dL_has_19 : decode cL_has 19 = .ok (.aload_n 0, 1) := by decide +kernel
theorem dL_has_20 : decode cL_has 20 = .ok (.iload_n 1, 1) := by decide +kernel
theorem dL_has_21 : decode cL_has 21 = .ok (.iconst 1, 1) := by decide +kernel
theorem dL_has_22 : decode cL_has 22 = .ok (.invokevirtual 118, 3) := by decide +kernel
theorem dL_has_25 : decode cL_has 25 = .ok (.iload 4, 2) := by decide +kernel
theorem dL_has_27 : decode cL_has 27 = .ok (.if_icmp .ne 18, 3) := by decide +kernel
theorem dL_has_30 : decode cL_has 30 = .ok (.aload_n 0, 1) := by decide +kernel
theorem dL_has_31 : decode cL_has 31 = .ok (.iload_n 1, 1) := by decide +kernel
theorem dL_has_32 : decode cL_has 32 = .ok (.iconst 2, 1) := by decide +kernel
theorem dL_has_33 : decode cL_has 33 = .ok (.invokevirtual 118, 3) := by decide +kernel
theorem dL_has_36 : decode cL_has 36 = .ok (.iload 5, 2) := by decide +kernel
theorem dL_has_38 : decode cL_has 38 = .ok (.if_icmp .ne 7, 3) := by decide +kernel
theorem dL_has_41 : decode cL_has 41 = .ok (.iconst 1, 1) := by decide +kernel
theorem dL_has_42 : decode cL_has 42 = .ok (.goto 4, 3) := by decide +kernel
theorem dL_has_45 : decode cL_has 45 = .ok (.iconst 0, 1) := by decide +kernel
theorem dL_has_46 : decode cL_has 46 = .ok (.ireturn, 1) := by decide +kernel
theorem dL_is_0 : decode cL_is 0 = .ok (.aload_n 0, 1) := by decide +kernel
theorem dL_is_1 : decode cL_is 1 = .ok (.iload_n 1, 1) := by decide +kernel
theorem dL_is_2 : decode cL_is 2 = .ok (.iconst 0, 1) := by decide +kernel
theorem dL_is_3 : decode cL_is 3 = .ok (.invokevirtual 121, 3) := by decide +kernel
theorem dL_is_6 : decode cL_is 6 = .ok (.iload_n 2, 1) := by decide +kernel
theorem dL_is_7 : decode cL_is 7 = .ok (.if_icmp .ne 28, 3) := by decide +kernel
theorem dL_is_10 : decode cL_is 10 = .ok (.aload_n 0, 1) := by decide +kernel
theorem dL_is_11 : decode cL_is 11 = .ok (.iload_n 1, 1) := by decide +kernel
theorem dL_is_12 : decode cL_is 12 = .ok (.iconst 1, 1) := by decide +kernel
theorem dL_is_13 : decode cL_is 13 = .ok (.invokevirtual 121, 3) := by decide +kernel
theorem dL_is_16 : decode cL_is 16 = .ok (.iload_n 3, 1) := by decide +kernel
theorem dL_is_17 : decode cL_is 17 = .ok (.if_icmp .ne 18, 3) := by decide +kernel
theorem dL_is_20 : decode cL_is 20 = .ok (.aload_n 0, 1) := by decide +kernel
theorem dL_is_21 : decode cL_is 21 = .ok (.iload_n 1, 1) := by decide +kernel
theorem dL_is_22 : decode cL_is 22 = .ok (.iconst 2, 1) := by decide +kernel
theorem dL_is_23 : decode cL_is 23 = .ok (.invokevirtual 121, 3) := by decide +kernel
theorem dL_is_26 : decode cL_is 26 = .ok (.iload 4, 2) := by decide +kernel
theorem dL_is_28 : decode cL_is 28 = .ok (.if_icmp .ne 7, 3) := by decide +kernel
theorem dL_is_31 : decode cL_is 31 = .ok (.iconst 1, 1) := by decide +kernel
theorem dL_is_32 : decode cL_is 32 = .ok (.goto 4, 3) := by decide +kernel
theorem dL_is_35 : decode cL_is 35 = .ok (.iconst 0, 1) := by decide +kernel
theorem dL_is_36 : decode cL_is 36 = .ok (.ireturn, 1) := by decide +kernel
