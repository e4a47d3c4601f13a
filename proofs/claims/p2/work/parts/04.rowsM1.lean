theorem dX12_linksTypes_250 : decode cX12_linksTypes 250 = .ok (.iconst 0, 1) := by decide +kernel
theorem dX12_linksTypes_251 : decode cX12_linksTypes 251 = .ok (.ireturn, 1) := by decide +kernel
theorem dX12_linksValue_0 : decode cX12_linksValue 0 = .ok (.aload_n 0, 1) := by decide +kernel
theorem dX12_linksValue_1 : decode cX12_linksValue 1 = .ok (.iload_n 1, 1) := by decide +kernel
theorem dX12_linksValue_2 : decode cX12_linksValue 2 = .ok (.iload 4, 2) := by decide +kernel
theorem dX12_linksValue_4 : decode cX12_linksValue 4 = .ok (.invokevirtual 388, 3) := by decide +kernel
theorem dX12_linksValue_7 : decode cX12_linksValue 7 = .ok (.iconst (-1), 1) := by decide +kernel
theorem dX12_linksValue_8 : decode cX12_linksValue 8 = .ok (.if_icmp .eq 7, 3) := by decide +kernel
theorem dX12_linksValue_11 : decode cX12_linksValue 11 = .ok (.iconst 1, 1) := by decide +kernel
theorem dX12_linksValue_12 : decode cX12_linksValue 12 = .ok (.goto 4, 3) := by decide +kernel
theorem dX12_linksValue_15 : decode cX12_linksValue 15 = .ok (.iconst 0, 1) := by decide +kernel
theorem dX12_linksValue_16 : decode cX12_linksValue 16 = .ok (.istore 5, 2) := by decide +kernel
theorem dX12_linksValue_18 : decode cX12_linksValue 18 = .ok (.aload_n 0, 1) := by decide +kernel
theorem dX12_linksValue_19 : decode cX12_linksValue 19 = .ok (.iload_n 2, 1) := by decide +kernel
theorem dX12_linksValue_20 : decode cX12_linksValue 20 = .ok (.iload 4, 2) := by decide +kernel
theorem dX12_linksValue_22 : decode cX12_linksValue 22 = .ok (.invokevirtual 388, 3) := by decide +kernel
theorem dX12_linksValue_25 : decode cX12_linksValue 25 = .ok (.iconst (-1), 1) := by decide +kernel
theorem dX12_linksValue_26 : decode cX12_linksValue 26 = .ok (.if_icmp .eq 7, 3) := by decide +kernel
theorem dX12_linksValue_29 : decode cX12_linksValue 29 = .ok (.iconst 1, 1) := by decide +kernel
theorem dX12_linksValue_30 : decode cX12_linksValue 30 = .ok (.goto 4, 3) := by decide +kernel
theorem dX12_linksValue_33 : decode cX12_linksValue 33 = .ok (.iconst 0, 1) := by decide +kernel
theorem dX12_linksValue_34 : decode cX12_linksValue 34 = .ok (.istore 6, 2) := by decide +kernel
theorem dX12_linksValue_36 : decode cX12_linksValue 36 = .ok (.iload 5, 2) := by decide +kernel
theorem dX12_linksValue_38 : decode cX12_linksValue 38 = .ok (.ifCond .eq 18, 3) := by decide +kernel
theorem dX12_linksValue_41 : decode cX12_linksValue 41 = .ok (.aload_n 0, 1) := by decide +kernel
theorem dX12_linksValue_42 : decode cX12_linksValue 42 = .ok (.iconst 0, 1) := by decide +kernel
theorem dX12_linksValue_43 : decode cX12_linksValue 43 = .ok (.aload_n 0, 1) := by decide +kernel
theorem dX12_linksValue_44 : decode cX12_linksValue 44 = .ok (.iload_n 1, 1) := by decide +kernel
theorem dX12_linksValue_45 : decode cX12_linksValue 45 = .ok (.iload 4, 2) := by decide +kernel
theorem dX12_linksValue_47 : decode cX12_linksValue 47 = .ok (.invokevirtual 388, 3) := by decide +kernel
theorem dX12_linksValue_50 : decode cX12_linksValue 50 = .ok (.invokevirtual 378, 3) := by decide +kernel
theorem dX12_linksValue_53 : decode cX12_linksValue 53 = .ok (.goto 4, 3) := by decide +kernel
theorem dX12_linksValue_56 : decode cX12_linksValue 56 = .ok (.iconst (-1), 1) := by decide +kernel
theorem dX12_linksValue_57 : decode cX12_linksValue 57 = .ok (.istore 7, 2) := by decide +kernel
theorem dX12_linksValue_59 : decode cX12_linksValue 59 = .ok (.iload 6, 2) := by decide +kernel
theorem dX12_linksValue_61 : decode cX12_linksValue 61 = .ok (.ifCond .eq 18, 3) := by decide +kernel
theorem dX12_linksValue_64 : decode cX12_linksValue 64 = .ok (.aload_n 0, 1) := by decide +kernel
theorem dX12_linksValue_65 : decode cX12_linksValue 65 = .ok (.iconst 0, 1) := by decide +kernel
theorem dX12_linksValue_66 : decode cX12_linksValue 66 = .ok (.aload_n 0, 1) := by decide +kernel
theorem dX12_linksValue_67 : decode cX12_linksValue 67 = .ok (.iload_n 2, 1) := by decide +kernel
theorem dX12_linksValue_68 : decode cX12_linksValue 68 = .ok (.iload 4, 2) := by decide +kernel
theorem dX12_linksValue_70 : decode cX12_linksValue 70 = .ok (.invokevirtual 388, 3) := by decide +kernel
theorem dX12_linksValue_73 : decode cX12_linksValue 73 = .ok (.invokevirtual 378, 3) := by decide +kernel
theorem dX12_linksValue_76 : decode cX12_linksValue 76 = .ok (.goto 4, 3) := by decide +kernel
theorem dX12_linksValue_79 : decode cX12_linksValue 79 = .ok (.iconst (-1), 1) := by decide +kernel
theorem dX12_linksValue_80 : decode cX12_linksValue 80 = .ok (.istore 8, 2) := by decide +kernel
theorem dX12_linksValue_82 : decode cX12_linksValue 82 = .ok (.iload 5, 2) := by decide +kernel
theorem dX12_linksValue_84 : decode cX12_linksValue 84 = .ok (.ifCond .eq 16, 3) := by decide +kernel
theorem dX12_linksValue_87 : decode cX12_linksValue 87 = .ok (.aload_n 0, 1) := by decide +kernel
theorem dX12_linksValue_88 : decode cX12_linksValue 88 = .ok (.getfield 84, 3) := by decide +kernel
theorem dX12_linksValue_91 : decode cX12_linksValue 91 = .ok (.iload 7, 2) := by decide +kernel
theorem dX12_linksValue_93 : decode cX12_linksValue 93 = .ok (.iaload, 1) := by decide +kernel
theorem dX12_linksValue_94 : decode cX12_linksValue 94 = .ok (.sipush 200, 3) := by decide +kernel
theorem dX12_linksValue_97 : decode cX12_linksValue 97 = .ok (.if_icmp .gt 21, 3) := by decide +kernel
theorem dX12_linksValue_100 : decode cX12_linksValue 100 = .ok (.iload 6, 2) := by decide +kernel
theorem dX12_linksValue_102 : decode cX12_linksValue 102 = .ok (.ifCond .eq 23, 3) := by decide +kernel
theorem dX12_linksValue_105 : decode cX12_linksValue 105 = .ok (.aload_n 0, 1) := by decide +kernel
theorem dX12_linksValue_106 : decode cX12_linksValue 106 = .ok (.getfield 84, 3) := by decide +kernel
theorem dX12_linksValue_109 : decode cX12_linksValue 109 = .ok (.iload 8, 2) := by decide +kernel
theorem dX12_linksValue_111 : decode cX12_linksValue 111 = .ok (.iaload, 1) := by decide +kernel
theorem dX12_linksValue_112 : decode cX12_linksValue 112 = .ok (.sipush 200, 3) := by decide +kernel
theorem dX12_linksValue_115 : decode cX12_linksValue 115 = .ok (.if_icmp .le 10, 3) := by decide +kernel
theorem dX12_linksValue_118 : decode cX12_linksValue 118 = .ok (.sipush 700, 3) := by decide +kernel
theorem dX12_linksValue_121 : decode cX12_linksValue 121 = .ok (.iload 4, 2) := by decide +kernel
theorem dX12_linksValue_123 : decode cX12_linksValue 123 = .ok (.iadd, 1) := by decide +kernel
theorem dX12_linksValue_124 : decode cX12_linksValue 124 = .ok (.ireturn, 1) := by decide +kernel
theorem dX12_linksValue_125 : decode cX12_linksValue 125 = .ok (.iload 5, 2) := by decide +kernel
theorem dX12_linksValue_127 : decode cX12_linksValue 127 = .ok (.ifCond .eq 17, 3) := by decide +kernel
theorem dX12_linksValue_130 : decode cX12_linksValue 130 = .ok (.aload_n 0, 1) := by decide +kernel
theorem dX12_linksValue_131 : decode cX12_linksValue 131 = .ok (.iload_n 1, 1) := by decide +kernel
theorem dX12_linksValue_132 : decode cX12_linksValue 132 = .ok (.iload 4, 2) := by decide +kernel
theorem dX12_linksValue_134 : decode cX12_linksValue 134 = .ok (.invokevirtual 398, 3) := by decide +kernel
theorem dX12_linksValue_137 : decode cX12_linksValue 137 = .ok (.ifCond .eq 7, 3) := by decide +kernel
theorem dX12_linksValue_140 : decode cX12_linksValue 140 = .ok (.iconst 1, 1) := by decide +kernel
theorem dX12_linksValue_141 : decode cX12_linksValue 141 = .ok (.goto 4, 3) := by decide +kernel
theorem dX12_linksValue_144 : decode cX12_linksValue 144 = .ok (.iconst 0, 1) := by decide +kernel
theorem dX12_linksValue_145 : decode cX12_linksValue 145 = .ok (.istore 9, 2) := by decide +kernel
theorem dX12_linksValue_147 : decode cX12_linksValue 147 = .ok (.iload 6, 2) := by decide +kernel
theorem dX12_linksValue_149 : decode cX12_linksValue 149 = .ok (.ifCond .eq 17, 3) := by decide +kernel
theorem dX12_linksValue_152 : decode cX12_linksValue 152 = .ok (.aload_n 0, 1) := by decide +kernel
theorem dX12_linksValue_153 : decode cX12_linksValue 153 = .ok (.iload_n 2, 1) := by decide +kernel
theorem dX12_linksValue_154 : decode cX12_linksValue 154 = .ok (.iload 4, 2) := by decide +kernel
theorem dX12_linksValue_156 : decode cX12_linksValue 156 = .ok (.invokevirtual 398, 3) := by decide +kernel
theorem dX12_linksValue_159 : decode cX12_linksValue 159 = .ok (.ifCond .eq 7, 3) := by decide +kernel
theorem dX12_linksValue_162 : decode cX12_linksValue 162 = .ok (.iconst 1, 1) := by decide +kernel
theorem dX12_linksValue_163 : decode cX12_linksValue 163 = .ok (.goto 4, 3) := by decide +kernel
theorem dX12_linksValue_166 : decode cX12_linksValue 166 = .ok (.iconst 0, 1) := by decide +kernel
theorem dX12_linksValue_167 : decode cX12_linksValue 167 = .ok (.istore 10, 2) := by decide +kernel
theorem dX12_linksValue_169 : decode cX12_linksValue 169 = .ok (.iload 5, 2) := by decide +kernel
theorem dX12_linksValue_171 : decode cX12_linksValue 171 = .ok (.ifCond .eq 95, 3) := by decide +kernel
theorem dX12_linksValue_174 : decode cX12_linksValue 174 = .ok (.iload 6, 2) := by decide +kernel
theorem dX12_linksValue_176 : decode cX12_linksValue 176 = .ok (.ifCond .eq 90, 3) := by decide +kernel
theorem dX12_linksValue_179 : decode cX12_linksValue 179 = .ok (.iload 9, 2) := by decide +kernel
theorem dX12_linksValue_181 : decode cX12_linksValue 181 = .ok (.ifCond .ne 15, 3) := by decide +kernel
theorem dX12_linksValue_184 : decode cX12_linksValue 184 = .ok (.iload 10, 2) := by decide +kernel
theorem dX12_linksValue_186 : decode cX12_linksValue 186 = .ok (.ifCond .ne 10, 3) := by decide +kernel
theorem dX12_linksValue_189 : decode cX12_linksValue 189 = .ok (.sipush 400, 3) := by decide +kernel
theorem dX12_linksValue_192 : decode cX12_linksValue 192 = .ok (.iload 4, 2) := by decide +kernel
theorem dX12_linksValue_194 : decode cX12_linksValue 194 = .ok (.iadd, 1) := by decide +kernel
theorem dX12_linksValue_195 : decode cX12_linksValue 195 = .ok (.ireturn, 1) := by decide +kernel
theorem dX12_linksValue_196 : decode cX12_linksValue 196 = .ok (.iload 7, 2) := by decide +kernel
theorem dX12_linksValue_198 : decode cX12_linksValue 198 = .ok (.iload 8, 2) := by decide +kernel
theorem dX12_linksValue_200 : decode cX12_linksValue 200 = .ok (.if_icmp .eq 10, 3) := by decide +kernel
theorem dX12_linksValue_203 : decode cX12_linksValue 203 = .ok (.sipush 200, 3) := by decide +kernel
theorem dX12_linksValue_206 : decode cX12_linksValue 206 = .ok (.iload 4, 2) := by decide +kernel
theorem dX12_linksValue_208 : decode cX12_linksValue 208 = .ok (.iadd, 1) := by decide +kernel
theorem dX12_linksValue_209 : decode cX12_linksValue 209 = .ok (.ireturn, 1) := by decide +kernel
theorem dX12_linksValue_210 : decode cX12_linksValue 210 = .ok (.iload 9, 2) := by decide +kernel
theorem dX12_linksValue_212 : decode cX12_linksValue 212 = .ok (.iload 10, 2) := by decide +kernel
theorem dX12_linksValue_214 : decode cX12_linksValue 214 = .ok (.if_icmp .eq 52, 3) := by decide +kernel
theorem dX12_linksValue_217 : decode cX12_linksValue 217 = .ok (.aload_n 0, 1) := by decide +kernel
theorem dX12_linksValue_218 : decode cX12_linksValue 218 = .ok (.iload 9, 2) := by decide +kernel
theorem dX12_linksValue_220 : decode cX12_linksValue 220 = .ok (.ifCond .eq 7, 3) := by decide +kernel
theorem dX12_linksValue_223 : decode cX12_linksValue 223 = .ok (.iload_n 2, 1) := by decide +kernel
theorem dX12_linksValue_224 : decode cX12_linksValue 224 = .ok (.goto 4, 3) := by decide +kernel
theorem dX12_linksValue_227 : decode cX12_linksValue 227 = .ok (.iload_n 1, 1) := by decide +kernel
theorem dX12_linksValue_228 : decode cX12_linksValue 228 = .ok (.iload 4, 2) := by decide +kernel
theorem dX12_linksValue_230 : decode cX12_linksValue 230 = .ok (.invokevirtual 410, 3) := by decide +kernel
theorem dX12_linksValue_233 : decode cX12_linksValue 233 = .ok (.istore 11, 2) := by decide +kernel
theorem dX12_linksValue_235 : decode cX12_linksValue 235 = .ok (.iload 11, 2) := by decide +kernel
theorem dX12_linksValue_237 : decode cX12_linksValue 237 = .ok (.ifCond .eq 29, 3) := by decide +kernel
theorem dX12_linksValue_240 : decode cX12_linksValue 240 = .ok (.aload_n 0, 1) := by decide +kernel
theorem dX12_linksValue_241 : decode cX12_linksValue 241 = .ok (.iload 9, 2) := by decide +kernel
theorem dX12_linksValue_243 : decode cX12_linksValue 243 = .ok (.ifCond .eq 7, 3) := by decide +kernel
theorem dX12_linksValue_246 : decode cX12_linksValue 246 = .ok (.iload_n 1, 1) := by decide +kernel
theorem dX12_linksValue_247 : decode cX12_linksValue 247 = .ok (.goto 4, 3) := by decide +kernel
theorem dX12_linksValue_250 : decode cX12_linksValue 250 = .ok (.iload_n 2, 1) := by decide +kernel
theorem dX12_linksValue_251 : decode cX12_linksValue 251 = .ok (.iload 4, 2) := by decide +kernel
theorem dX12_linksValue_253 : decode cX12_linksValue 253 = .ok (.invokevirtual 410, 3) := by decide +kernel
theorem dX12_linksValue_256 : decode cX12_linksValue 256 = .ok (.ifCond .ne 10, 3) := by decide +kernel
theorem dX12_linksValue_259 : decode cX12_linksValue 259 = .ok (.sipush 600, 3) := by decide +kernel
theorem dX12_linksValue_262 : decode cX12_linksValue 262 = .ok (.iload 4, 2) := by decide +kernel
theorem dX12_linksValue_264 : decode cX12_linksValue 264 = .ok (.iadd, 1) := by decide +kernel
theorem dX12_linksValue_265 : decode cX12_linksValue 265 = .ok (.ireturn, 1) := by decide +kernel
theorem dX12_linksValue_266 : decode cX12_linksValue 266 = .ok (.iload 5, 2) := by decide +kernel
theorem dX12_linksValue_268 : decode cX12_linksValue 268 = .ok (.ifCond .ne 10, 3) := by decide +kernel
theorem dX12_linksValue_271 : decode cX12_linksValue 271 = .ok (.iload 6, 2) := by decide +kernel
theorem dX12_linksValue_273 : decode cX12_linksValue 273 = .ok (.ifCond .ne 5, 3) := by decide +kernel
theorem dX12_linksValue_276 : decode cX12_linksValue 276 = .ok (.iconst 0, 1) := by decide +kernel
theorem dX12_linksValue_277 : decode cX12_linksValue 277 = .ok (.ireturn, 1) := by decide +kernel
theorem dX12_linksValue_278 : decode cX12_linksValue 278 = .ok (.iload 5, 2) := by decide +kernel
theorem dX12_linksValue_280 : decode cX12_linksValue 280 = .ok (.ifCond .eq 18, 3) := by decide +kernel
theorem dX12_linksValue_283 : decode cX12_linksValue 283 = .ok (.iload 6, 2) := by decide +kernel
theorem dX12_linksValue_285 : decode cX12_linksValue 285 = .ok (.ifCond .eq 17, 3) := by decide +kernel
theorem dX12_linksValue_288 : decode cX12_linksValue 288 = .ok (.iload 9, 2) := by decide +kernel
theorem dX12_linksValue_290 : decode cX12_linksValue 290 = .ok (.ifCond .eq 12, 3) := by decide +kernel
theorem dX12_linksValue_293 : decode cX12_linksValue 293 = .ok (.iload 10, 2) := by decide +kernel
theorem dX12_linksValue_295 : decode cX12_linksValue 295 = .ok (.ifCond .ne 7, 3) := by decide +kernel
theorem dX12_linksValue_298 : decode cX12_linksValue 298 = .ok (.iload_n 2, 1) := by decide +kernel
theorem dX12_linksValue_299 : decode cX12_linksValue 299 = .ok (.goto 4, 3) := by decide +kernel
theorem dX12_linksValue_302 : decode cX12_linksValue 302 = .ok (.iload_n 1, 1) := by decide +kernel
theorem dX12_linksValue_303 : decode cX12_linksValue 303 = .ok (.istore 11, 2) := by decide +kernel
theorem dX12_linksValue_305 : decode cX12_linksValue 305 = .ok (.aload_n 0, 1) := by decide +kernel
theorem dX12_linksValue_306 : decode cX12_linksValue 306 = .ok (.getfield 133, 3) := by decide +kernel
theorem dX12_linksValue_309 : decode cX12_linksValue 309 = .ok (.bipush 10, 2) := by decide +kernel
theorem dX12_linksValue_311 : decode cX12_linksValue 311 = .ok (.iload 11, 2) := by decide +kernel
theorem dX12_linksValue_313 : decode cX12_linksValue 313 = .ok (.imul, 1) := by decide +kernel
theorem dX12_linksValue_314 : decode cX12_linksValue 314 = .ok (.iload 4, 2) := by decide +kernel
theorem dX12_linksValue_316 : decode cX12_linksValue 316 = .ok (.iadd, 1) := by decide +kernel
theorem dX12_linksValue_317 : decode cX12_linksValue 317 = .ok (.iaload, 1) := by decide +kernel
theorem dX12_linksValue_318 : decode cX12_linksValue 318 = .ok (.istore 12, 2) := by decide +kernel
theorem dX12_linksValue_320 : decode cX12_linksValue 320 = .ok (.iload 5, 2) := by decide +kernel
theorem dX12_linksValue_322 : decode cX12_linksValue 322 = .ok (.ifCond .eq 47, 3) := by decide +kernel
theorem dX12_linksValue_325 : decode cX12_linksValue 325 = .ok (.iload 6, 2) := by decide +kernel
theorem dX12_linksValue_327 : decode cX12_linksValue 327 = .ok (.ifCond .eq 42, 3) := by decide +kernel
theorem dX12_linksValue_330 : decode cX12_linksValue 330 = .ok (.iload 9, 2) := by decide +kernel
theorem dX12_linksValue_332 : decode cX12_linksValue 332 = .ok (.ifCond .eq 37, 3) := by decide +kernel
theorem dX12_linksValue_335 : decode cX12_linksValue 335 = .ok (.iload 10, 2) := by decide +kernel
theorem dX12_linksValue_337 : decode cX12_linksValue 337 = .ok (.ifCond .eq 32, 3) := by decide +kernel
theorem dX12_linksValue_340 : decode cX12_linksValue 340 = .ok (.iconst 1, 1) := by decide +kernel
theorem dX12_linksValue_341 : decode cX12_linksValue 341 = .ok (.aload_n 0, 1) := by decide +kernel
theorem dX12_linksValue_342 : decode cX12_linksValue 342 = .ok (.iload_n 1, 1) := by decide +kernel
theorem dX12_linksValue_343 : decode cX12_linksValue 343 = .ok (.iload 4, 2) := by decide +kernel
theorem dX12_linksValue_345 : decode cX12_linksValue 345 = .ok (.invokevirtual 410, 3) := by decide +kernel
theorem dX12_linksValue_348 : decode cX12_linksValue 348 = .ok (.ifCond .eq 17, 3) := by decide +kernel
theorem dX12_linksValue_351 : decode cX12_linksValue 351 = .ok (.aload_n 0, 1) := by decide +kernel
theorem dX12_linksValue_352 : decode cX12_linksValue 352 = .ok (.iload_n 2, 1) := by decide +kernel
theorem dX12_linksValue_353 : decode cX12_linksValue 353 = .ok (.iload 4, 2) := by decide +kernel
theorem dX12_linksValue_355 : decode cX12_linksValue 355 = .ok (.invokevirtual 410, 3) := by decide +kernel
theorem dX12_linksValue_358 : decode cX12_linksValue 358 = .ok (.ifCond .eq 7, 3) := by decide +kernel
theorem dX12_linksValue_361 : decode cX12_linksValue 361 = .ok (.iconst 2, 1) := by decide +kernel
theorem dX12_linksValue_362 : decode cX12_linksValue 362 = .ok (.goto 4, 3) := by decide +kernel
theorem dX12_linksValue_365 : decode cX12_linksValue 365 = .ok (.iconst 0, 1) := by decide +kernel
theorem dX12_linksValue_366 : decode cX12_linksValue 366 = .ok (.iadd, 1) := by decide +kernel
theorem dX12_linksValue_367 : decode cX12_linksValue 367 = .ok (.istore 12, 2) := by decide +kernel
theorem dX12_linksValue_369 : decode cX12_linksValue 369 = .ok (.aload_n 0, 1) := by decide +kernel
theorem dX12_linksValue_370 : decode cX12_linksValue 370 = .ok (.iload_n 3, 1) := by decide +kernel
theorem dX12_linksValue_371 : decode cX12_linksValue 371 = .ok (.iload 4, 2) := by decide +kernel
theorem dX12_linksValue_373 : decode cX12_linksValue 373 = .ok (.iload 5, 2) := by decide +kernel
theorem dX12_linksValue_375 : decode cX12_linksValue 375 = .ok (.ifCond .eq 8, 3) := by decide +kernel
theorem dX12_linksValue_378 : decode cX12_linksValue 378 = .ok (.iload 7, 2) := by decide +kernel
theorem dX12_linksValue_380 : decode cX12_linksValue 380 = .ok (.goto 5, 3) := by decide +kernel
theorem dX12_linksValue_383 : decode cX12_linksValue 383 = .ok (.iload 8, 2) := by decide +kernel
theorem dX12_linksValue_385 : decode cX12_linksValue 385 = .ok (.iload 12, 2) := by decide +kernel
theorem dX12_linksValue_387 : decode cX12_linksValue 387 = .ok (.aload_n 0, 1) := by decide +kernel
theorem dX12_linksValue_388 : decode cX12_linksValue 388 = .ok (.getfield 136, 3) := by decide +kernel
theorem dX12_linksValue_391 : decode cX12_linksValue 391 = .ok (.bipush 10, 2) := by decide +kernel
theorem dX12_linksValue_393 : decode cX12_linksValue 393 = .ok (.iload 11, 2) := by decide +kernel
theorem dX12_linksValue_395 : decode cX12_linksValue 395 = .ok (.imul, 1) := by decide +kernel
theorem dX12_linksValue_396 : decode cX12_linksValue 396 = .ok (.iload 4, 2) := by decide +kernel
theorem dX12_linksValue_398 : decode cX12_linksValue 398 = .ok (.iadd, 1) := by decide +kernel
theorem dX12_linksValue_399 : decode cX12_linksValue 399 = .ok (.iaload, 1) := by decide +kernel
theorem dX12_linksValue_400 : decode cX12_linksValue 400 = .ok (.invokevirtual 394, 3) := by decide +kernel
theorem dX12_linksValue_403 : decode cX12_linksValue 403 = .ok (.iconst 0, 1) := by decide +kernel
theorem dX12_linksValue_404 : decode cX12_linksValue 404 = .ok (.ireturn, 1) := by decide +kernel
theorem dX12_links_0 : decode cX12_links 0 = .ok (.aload_n 0, 1) := by decide +kernel
theorem dX12_links_1 : decode cX12_links 1 = .ok (.iload_n 1, 1) := by decide +kernel
theorem dX12_links_2 : decode cX12_links 2 = .ok (.iload_n 2, 1) := by decide +kernel
theorem dX12_links_3 : decode cX12_links 3 = .ok (.iload_n 3, 1) := by decide +kernel
theorem dX12_links_4 : decode cX12_links 4 = .ok (.invokevirtual 415, 3) := by decide +kernel
theorem dX12_links_7 : decode cX12_links 7 = .ok (.istore 4, 2) := by decide +kernel
theorem dX12_links_9 : decode cX12_links 9 = .ok (.iconst 0, 1) := by decide +kernel
theorem dX12_links_10 : decode cX12_links 10 = .ok (.istore 5, 2) := by decide +kernel
theorem dX12_links_12 : decode cX12_links 12 = .ok (.iload 5, 2) := by decide +kernel
theorem dX12_links_14 : decode cX12_links 14 = .ok (.bipush 10, 2) := by decide +kernel
theorem dX12_links_16 : decode cX12_links 16 = .ok (.if_icmp .ge 25, 3) := by decide +kernel
theorem dX12_links_19 : decode cX12_links 19 = .ok (.iload 4, 2) := by decide +kernel
theorem dX12_links_21 : decode cX12_links 21 = .ok (.ifCond .ne 20, 3) := by decide +kernel
theorem dX12_links_24 : decode cX12_links 24 = .ok (.aload_n 0, 1) := by decide +kernel
theorem dX12_links_25 : decode cX12_links 25 = .ok (.iload_n 1, 1) := by decide +kernel
theorem dX12_links_26 : decode cX12_links 26 = .ok (.iload_n 2, 1) := by decide +kernel
theorem dX12_links_27 : decode cX12_links 27 = .ok (.iload_n 3, 1) := by decide +kernel
theorem dX12_links_28 : decode cX12_links 28 = .ok (.iload 5, 2) := by decide +kernel
theorem dX12_links_30 : decode cX12_links 30 = .ok (.invokevirtual 418, 3) := by decide +kernel
theorem dX12_links_33 : decode cX12_links 33 = .ok (.istore 4, 2) := by decide +kernel
theorem dX12_links_35 : decode cX12_links 35 = .ok (.iinc 5 1, 3) := by decide +kernel
theorem dX12_links_38 : decode cX12_links 38 = .ok (.goto (-26), 3) := by decide +kernel
theorem dX12_links_41 : decode cX12_links 41 = .ok (.iload 4, 2) := by decide +kernel
theorem dX12_links_43 : decode cX12_links 43 = .ok (.ireturn, 1) := by decide +kernel
theorem dX12_seals_0 : decode cX12_seals 0 = .ok (.iconst 0, 1) := by decide +kernel
theorem dX12_seals_1 : decode cX12_seals 1 = .ok (.istore 5, 2) := by decide +kernel
theorem dX12_seals_3 : decode cX12_seals 3 = .ok (.iconst 0, 1) := by decide +kernel
theorem dX12_seals_4 : decode cX12_seals 4 = .ok (.istore 6, 2) := by decide +kernel
theorem dX12_seals_6 : decode cX12_seals 6 = .ok (.iload 6, 2) := by decide +kernel
theorem dX12_seals_8 : decode cX12_seals 8 = .ok (.bipush 6, 2) := by decide +kernel
theorem dX12_seals_10 : decode cX12_seals 10 = .ok (.if_icmp .ge 78, 3) := by decide +kernel
theorem dX12_seals_13 : decode cX12_seals 13 = .ok (.aload_n 0, 1) := by decide +kernel
theorem dX12_seals_14 : decode cX12_seals 14 = .ok (.iload_n 3, 1) := by decide +kernel
theorem dX12_seals_15 : decode cX12_seals 15 = .ok (.iload 6, 2) := by decide +kernel
theorem dX12_seals_17 : decode cX12_seals 17 = .ok (.invokevirtual 413, 3) := by decide +kernel
theorem dX12_seals_20 : decode cX12_seals 20 = .ok (.iconst (-1), 1) := by decide +kernel
theorem dX12_seals_21 : decode cX12_seals 21 = .ok (.if_icmp .ne 17, 3) := by decide +kernel
theorem dX12_seals_24 : decode cX12_seals 24 = .ok (.aload_n 0, 1) := by decide +kernel
theorem dX12_seals_25 : decode cX12_seals 25 = .ok (.iload_n 2, 1) := by decide +kernel
theorem dX12_seals_26 : decode cX12_seals 26 = .ok (.iload 6, 2) := by decide +kernel
theorem dX12_seals_28 : decode cX12_seals 28 = .ok (.invokevirtual 413, 3) := by decide +kernel
theorem dX12_seals_31 : decode cX12_seals 31 = .ok (.ifCond .lt 7, 3) := by decide +kernel
theorem dX12_seals_34 : decode cX12_seals 34 = .ok (.iconst 1, 1) := by decide +kernel
theorem dX12_seals_35 : decode cX12_seals 35 = .ok (.goto 4, 3) := by decide +kernel
theorem dX12_seals_38 : decode cX12_seals 38 = .ok (.iconst 0, 1) := by decide +kernel
theorem dX12_seals_39 : decode cX12_seals 39 = .ok (.istore 7, 2) := by decide +kernel
theorem dX12_seals_41 : decode cX12_seals 41 = .ok (.iload 5, 2) := by decide +kernel
theorem dX12_seals_43 : decode cX12_seals 43 = .ok (.iload 7, 2) := by decide +kernel
theorem dX12_seals_45 : decode cX12_seals 45 = .ok (.ifCond .eq 10, 3) := by decide +kernel
theorem dX12_seals_48 : decode cX12_seals 48 = .ok (.iconst 1, 1) := by decide +kernel
theorem dX12_seals_49 : decode cX12_seals 49 = .ok (.iload 6, 2) := by decide +kernel
theorem dX12_seals_51 : decode cX12_seals 51 = .ok (.ishl, 1) := by decide +kernel
theorem dX12_seals_52 : decode cX12_seals 52 = .ok (.goto 4, 3) := by decide +kernel
theorem dX12_seals_55 : decode cX12_seals 55 = .ok (.iconst 0, 1) := by decide +kernel
theorem dX12_seals_56 : decode cX12_seals 56 = .ok (.ior, 1) := by decide +kernel
theorem dX12_seals_57 : decode cX12_seals 57 = .ok (.istore 5, 2) := by decide +kernel
theorem dX12_seals_59 : decode cX12_seals 59 = .ok (.aload_n 0, 1) := by decide +kernel
theorem dX12_seals_60 : decode cX12_seals 60 = .ok (.getfield 151, 3) := by decide +kernel
theorem dX12_seals_63 : decode cX12_seals 63 = .ok (.iload 6, 2) := by decide +kernel
theorem dX12_seals_65 : decode cX12_seals 65 = .ok (.iload 7, 2) := by decide +kernel
theorem dX12_seals_67 : decode cX12_seals 67 = .ok (.ifCond .eq 13, 3) := by decide +kernel
theorem dX12_seals_70 : decode cX12_seals 70 = .ok (.aload_n 0, 1) := by decide +kernel
theorem dX12_seals_71 : decode cX12_seals 71 = .ok (.iload_n 2, 1) := by decide +kernel
theorem dX12_seals_72 : decode cX12_seals 72 = .ok (.iload 6, 2) := by decide +kernel
theorem dX12_seals_74 : decode cX12_seals 74 = .ok (.invokevirtual 413, 3) := by decide +kernel
theorem dX12_seals_77 : decode cX12_seals 77 = .ok (.goto 4, 3) := by decide +kernel
theorem dX12_seals_80 : decode cX12_seals 80 = .ok (.iconst (-1), 1) := by decide +kernel
theorem dX12_seals_81 : decode cX12_seals 81 = .ok (.iastore, 1) := by decide +kernel
theorem dX12_seals_82 : decode cX12_seals 82 = .ok (.iinc 6 1, 3) := by decide +kernel
theorem dX12_seals_85 : decode cX12_seals 85 = .ok (.goto (-79), 3) := by decide +kernel
theorem dX12_seals_88 : decode cX12_seals 88 = .ok (.aload_n 0, 1) := by decide +kernel
theorem dX12_seals_89 : decode cX12_seals 89 = .ok (.iload 5, 2) := by decide +kernel
theorem dX12_seals_91 : decode cX12_seals 91 = .ok (.invokevirtual 374, 3) := by decide +kernel
theorem dX12_seals_94 : decode cX12_seals 94 = .ok (.iconst 0, 1) := by decide +kernel
theorem dX12_seals_95 : decode cX12_seals 95 = .ok (.istore 6, 2) := by decide +kernel
theorem dX12_seals_97 : decode cX12_seals 97 = .ok (.iload 6, 2) := by decide +kernel
theorem dX12_seals_99 : decode cX12_seals 99 = .ok (.bipush 6, 2) := by decide +kernel
theorem dX12_seals_101 : decode cX12_seals 101 = .ok (.if_icmp .ge 103, 3) := by decide +kernel
theorem dX12_seals_104 : decode cX12_seals 104 = .ok (.aload_n 0, 1) := by decide +kernel
theorem dX12_seals_105 : decode cX12_seals 105 = .ok (.iload_n 3, 1) := by decide +kernel
theorem dX12_seals_106 : decode cX12_seals 106 = .ok (.iload 6, 2) := by decide +kernel
theorem dX12_seals_108 : decode cX12_seals 108 = .ok (.invokevirtual 413, 3) := by decide +kernel
theorem dX12_seals_111 : decode cX12_seals 111 = .ok (.bipush (-2), 2) := by decide +kernel
theorem dX12_seals_113 : decode cX12_seals 113 = .ok (.if_icmp .eq 22, 3) := by decide +kernel
theorem dX12_seals_116 : decode cX12_seals 116 = .ok (.aload_n 0, 1) := by decide +kernel
theorem dX12_seals_117 : decode cX12_seals 117 = .ok (.iload_n 2, 1) := by decide +kernel
theorem dX12_seals_118 : decode cX12_seals 118 = .ok (.iload 6, 2) := by decide +kernel
theorem dX12_seals_120 : decode cX12_seals 120 = .ok (.invokevirtual 413, 3) := by decide +kernel
theorem dX12_seals_123 : decode cX12_seals 123 = .ok (.bipush (-2), 2) := by decide +kernel
theorem dX12_seals_125 : decode cX12_seals 125 = .ok (.if_icmp .ne 10, 3) := by decide +kernel
theorem dX12_seals_128 : decode cX12_seals 128 = .ok (.sipush 550, 3) := by decide +kernel
theorem dX12_seals_131 : decode cX12_seals 131 = .ok (.iload 6, 2) := by decide +kernel
theorem dX12_seals_133 : decode cX12_seals 133 = .ok (.iadd, 1) := by decide +kernel
theorem dX12_seals_134 : decode cX12_seals 134 = .ok (.ireturn, 1) := by decide +kernel
theorem dX12_seals_135 : decode cX12_seals 135 = .ok (.aload_n 0, 1) := by decide +kernel
theorem dX12_seals_136 : decode cX12_seals 136 = .ok (.iload_n 3, 1) := by decide +kernel
theorem dX12_seals_137 : decode cX12_seals 137 = .ok (.iload 6, 2) := by decide +kernel
theorem dX12_seals_139 : decode cX12_seals 139 = .ok (.invokevirtual 413, 3) := by decide +kernel
theorem dX12_seals_142 : decode cX12_seals 142 = .ok (.ifCond .lt 56, 3) := by decide +kernel
theorem dX12_seals_145 : decode cX12_seals 145 = .ok (.aload_n 0, 1) := by decide +kernel
theorem dX12_seals_146 : decode cX12_seals 146 = .ok (.iconst 0, 1) := by decide +kernel
theorem dX12_seals_147 : decode cX12_seals 147 = .ok (.aload_n 0, 1) := by decide +kernel
theorem dX12_seals_148 : decode cX12_seals 148 = .ok (.iload_n 3, 1) := by decide +kernel
theorem dX12_seals_149 : decode cX12_seals 149 = .ok (.iload 6, 2) := by decide +kernel
theorem dX12_seals_151 : decode cX12_seals 151 = .ok (.invokevirtual 413, 3) := by decide +kernel
theorem dX12_seals_154 : decode cX12_seals 154 = .ok (.invokevirtual 378, 3) := by decide +kernel
theorem dX12_seals_157 : decode cX12_seals 157 = .ok (.istore 7, 2) := by decide +kernel
theorem dX12_seals_159 : decode cX12_seals 159 = .ok (.aload_n 0, 1) := by decide +kernel
theorem dX12_seals_160 : decode cX12_seals 160 = .ok (.getfield 84, 3) := by decide +kernel
theorem dX12_seals_163 : decode cX12_seals 163 = .ok (.iload 7, 2) := by decide +kernel
theorem dX12_seals_165 : decode cX12_seals 165 = .ok (.iaload, 1) := by decide +kernel
theorem dX12_seals_166 : decode cX12_seals 166 = .ok (.sipush 200, 3) := by decide +kernel
theorem dX12_seals_169 : decode cX12_seals 169 = .ok (.if_icmp .le 10, 3) := by decide +kernel
theorem dX12_seals_172 : decode cX12_seals 172 = .ok (.sipush 750, 3) := by decide +kernel
theorem dX12_seals_175 : decode cX12_seals 175 = .ok (.iload 6, 2) := by decide +kernel
theorem dX12_seals_177 : decode cX12_seals 177 = .ok (.iadd, 1) := by decide +kernel
theorem dX12_seals_178 : decode cX12_seals 178 = .ok (.ireturn, 1) := by decide +kernel
theorem dX12_seals_179 : decode cX12_seals 179 = .ok (.iload 7, 2) := by decide +kernel
theorem dX12_seals_181 : decode cX12_seals 181 = .ok (.aload_n 0, 1) := by decide +kernel
theorem dX12_seals_182 : decode cX12_seals 182 = .ok (.iload_n 2, 1) := by decide +kernel
theorem dX12_seals_183 : decode cX12_seals 183 = .ok (.iload 6, 2) := by decide +kernel
theorem dX12_seals_185 : decode cX12_seals 185 = .ok (.invokevirtual 413, 3) := by decide +kernel
theorem dX12_seals_188 : decode cX12_seals 188 = .ok (.if_icmp .eq 10, 3) := by decide +kernel
theorem dX12_seals_191 : decode cX12_seals 191 = .ok (.sipush 250, 3) := by decide +kernel
theorem dX12_seals_194 : decode cX12_seals 194 = .ok (.iload 6, 2) := by decide +kernel
theorem dX12_seals_196 : decode cX12_seals 196 = .ok (.iadd, 1) := by decide +kernel
theorem dX12_seals_197 : decode cX12_seals 197 = .ok (.ireturn, 1) := by decide +kernel
theorem dX12_seals_198 : decode cX12_seals 198 = .ok (.iinc 6 1, 3) := by decide +kernel
theorem dX12_seals_201 : decode cX12_seals 201 = .ok (.goto (-104), 3) := by decide +kernel
theorem dX12_seals_204 : decode cX12_seals 204 = .ok (.iconst 0, 1) := by decide +kernel
theorem dX12_seals_205 : decode cX12_seals 205 = .ok (.istore 6, 2) := by decide +kernel
theorem dX12_seals_207 : decode cX12_seals 207 = .ok (.iload 6, 2) := by decide +kernel
theorem dX12_seals_209 : decode cX12_seals 209 = .ok (.bipush 10, 2) := by decide +kernel
theorem dX12_seals_211 : decode cX12_seals 211 = .ok (.if_icmp .ge 38, 3) := by decide +kernel
theorem dX12_seals_214 : decode cX12_seals 214 = .ok (.aload_n 0, 1) := by decide +kernel
theorem dX12_seals_215 : decode cX12_seals 215 = .ok (.iload_n 3, 1) := by decide +kernel
theorem dX12_seals_216 : decode cX12_seals 216 = .ok (.iload 6, 2) := by decide +kernel
theorem dX12_seals_218 : decode cX12_seals 218 = .ok (.invokevirtual 388, 3) := by decide +kernel
theorem dX12_seals_221 : decode cX12_seals 221 = .ok (.iconst (-1), 1) := by decide +kernel
theorem dX12_seals_222 : decode cX12_seals 222 = .ok (.if_icmp .eq 21, 3) := by decide +kernel
theorem dX12_seals_225 : decode cX12_seals 225 = .ok (.aload_n 0, 1) := by decide +kernel
theorem dX12_seals_226 : decode cX12_seals 226 = .ok (.iload_n 2, 1) := by decide +kernel
theorem dX12_seals_227 : decode cX12_seals 227 = .ok (.iload_n 3, 1) := by decide +kernel
theorem dX12_seals_228 : decode cX12_seals 228 = .ok (.iload 6, 2) := by decide +kernel
theorem dX12_seals_230 : decode cX12_seals 230 = .ok (.invokevirtual 421, 3) := by decide +kernel
theorem dX12_seals_233 : decode cX12_seals 233 = .ok (.istore 7, 2) := by decide +kernel
theorem dX12_seals_235 : decode cX12_seals 235 = .ok (.iload 7, 2) := by decide +kernel
theorem dX12_seals_237 : decode cX12_seals 237 = .ok (.ifCond .eq 6, 3) := by decide +kernel
theorem dX12_seals_240 : decode cX12_seals 240 = .ok (.iload 7, 2) := by decide +kernel
theorem dX12_seals_242 : decode cX12_seals 242 = .ok (.ireturn, 1) := by decide +kernel
theorem dX12_seals_243 : decode cX12_seals 243 = .ok (.iinc 6 1, 3) := by decide +kernel
theorem dX12_seals_246 : decode cX12_seals 246 = .ok (.goto (-39), 3) := by decide +kernel
theorem dX12_seals_249 : decode cX12_seals 249 = .ok (.iconst 0, 1) := by decide +kernel
theorem dX12_seals_250 : decode cX12_seals 250 = .ok (.istore 6, 2) := by decide +kernel
theorem dX12_seals_252 : decode cX12_seals 252 = .ok (.iload 6, 2) := by decide +kernel
theorem dX12_seals_254 : decode cX12_seals 254 = .ok (.bipush 6, 2) := by decide +kernel
theorem dX12_seals_256 : decode cX12_seals 256 = .ok (.if_icmp .ge 87, 3) := by decide +kernel
theorem dX12_seals_259 : decode cX12_seals 259 = .ok (.aload_n 0, 1) := by decide +kernel
theorem dX12_seals_260 : decode cX12_seals 260 = .ok (.getfield 151, 3) := by decide +kernel
theorem dX12_seals_263 : decode cX12_seals 263 = .ok (.iload 6, 2) := by decide +kernel
theorem dX12_seals_265 : decode cX12_seals 265 = .ok (.iload 5, 2) := by decide +kernel
theorem dX12_seals_267 : decode cX12_seals 267 = .ok (.iload 6, 2) := by decide +kernel
theorem dX12_seals_269 : decode cX12_seals 269 = .ok (.invokestatic 367, 3) := by decide +kernel
theorem dX12_seals_272 : decode cX12_seals 272 = .ok (.ifCond .ne 7, 3) := by decide +kernel
theorem dX12_seals_275 : decode cX12_seals 275 = .ok (.iconst (-1), 1) := by decide +kernel
theorem dX12_seals_276 : decode cX12_seals 276 = .ok (.goto 60, 3) := by decide +kernel
theorem dX12_seals_279 : decode cX12_seals 279 = .ok (.aload_n 0, 1) := by decide +kernel
theorem dX12_seals_280 : decode cX12_seals 280 = .ok (.iconst 2, 1) := by decide +kernel
theorem dX12_seals_281 : decode cX12_seals 281 = .ok (.aload_n 0, 1) := by decide +kernel
theorem dX12_seals_282 : decode cX12_seals 282 = .ok (.getfield 70, 3) := by decide +kernel
theorem dX12_seals_285 : decode cX12_seals 285 = .ok (.iload_n 1, 1) := by decide +kernel
theorem dX12_seals_286 : decode cX12_seals 286 = .ok (.baload, 1) := by decide +kernel
theorem dX12_seals_287 : decode cX12_seals 287 = .ok (.ifCond .eq 15, 3) := by decide +kernel
theorem dX12_seals_290 : decode cX12_seals 290 = .ok (.aload_n 0, 1) := by decide +kernel
theorem dX12_seals_291 : decode cX12_seals 291 = .ok (.bipush 10, 2) := by decide +kernel
theorem dX12_seals_293 : decode cX12_seals 293 = .ok (.iload_n 1, 1) := by decide +kernel
theorem dX12_seals_294 : decode cX12_seals 294 = .ok (.iload 6, 2) := by decide +kernel
theorem dX12_seals_296 : decode cX12_seals 296 = .ok (.invokevirtual 348, 3) := by decide +kernel
theorem dX12_seals_299 : decode cX12_seals 299 = .ok (.goto 33, 3) := by decide +kernel
theorem dX12_seals_302 : decode cX12_seals 302 = .ok (.aload_n 0, 1) := by decide +kernel
theorem dX12_seals_303 : decode cX12_seals 303 = .ok (.bipush 11, 2) := by decide +kernel
theorem dX12_seals_305 : decode cX12_seals 305 = .ok (.aload_n 0, 1) := by decide +kernel
theorem dX12_seals_306 : decode cX12_seals 306 = .ok (.getfield 142, 3) := by decide +kernel
theorem dX12_seals_309 : decode cX12_seals 309 = .ok (.aload_n 0, 1) := by decide +kernel
theorem dX12_seals_310 : decode cX12_seals 310 = .ok (.getfield 58, 3) := by decide +kernel
theorem dX12_seals_313 : decode cX12_seals 313 = .ok (.iload_n 1, 1) := by decide +kernel
theorem dX12_seals_314 : decode cX12_seals 314 = .ok (.iaload, 1) := by decide +kernel
theorem dX12_seals_315 : decode cX12_seals 315 = .ok (.iaload, 1) := by decide +kernel
theorem dX12_seals_316 : decode cX12_seals 316 = .ok (.aload_n 0, 1) := by decide +kernel
theorem dX12_seals_317 : decode cX12_seals 317 = .ok (.getfield 142, 3) := by decide +kernel
theorem dX12_seals_320 : decode cX12_seals 320 = .ok (.aload_n 0, 1) := by decide +kernel
theorem dX12_seals_321 : decode cX12_seals 321 = .ok (.getfield 61, 3) := by decide +kernel
theorem dX12_seals_324 : decode cX12_seals 324 = .ok (.iload_n 1, 1) := by decide +kernel
theorem dX12_seals_325 : decode cX12_seals 325 = .ok (.iaload, 1) := by decide +kernel
theorem dX12_seals_326 : decode cX12_seals 326 = .ok (.iaload, 1) := by decide +kernel
theorem dX12_seals_327 : decode cX12_seals 327 = .ok (.iload 6, 2) := by decide +kernel
theorem dX12_seals_329 : decode cX12_seals 329 = .ok (.invokevirtual 363, 3) := by decide +kernel
theorem dX12_seals_332 : decode cX12_seals 332 = .ok (.iconst 0, 1) := by decide +kernel
theorem dX12_seals_333 : decode cX12_seals 333 = .ok (.invokevirtual 338, 3) := by decide +kernel
theorem dX12_seals_336 : decode cX12_seals 336 = .ok (.iastore, 1) := by decide +kernel
theorem dX12_seals_337 : decode cX12_seals 337 = .ok (.iinc 6 1, 3) := by decide +kernel
theorem dX12_seals_340 : decode cX12_seals 340 = .ok (.goto (-88), 3) := by decide +kernel
theorem dX12_seals_343 : decode cX12_seals 343 = .ok (.aload_n 0, 1) := by decide +kernel
theorem dX12_seals_344 : decode cX12_seals 344 = .ok (.iload 5, 2) := by decide +kernel
theorem dX12_seals_346 : decode cX12_seals 346 = .ok (.invokevirtual 374, 3) := by decide +kernel
theorem dX12_seals_349 : decode cX12_seals 349 = .ok (.iconst 0, 1) := by decide +kernel
theorem dX12_seals_350 : decode cX12_seals 350 = .ok (.istore 6, 2) := by decide +kernel
theorem dX12_seals_352 : decode cX12_seals 352 = .ok (.iload 6, 2) := by decide +kernel
theorem dX12_seals_354 : decode cX12_seals 354 = .ok (.bipush 6, 2) := by decide +kernel
theorem dX12_seals_356 : decode cX12_seals 356 = .ok (.if_icmp .ge 68, 3) := by decide +kernel
theorem dX12_seals_359 : decode cX12_seals 359 = .ok (.aload_n 0, 1) := by decide +kernel
theorem dX12_seals_360 : decode cX12_seals 360 = .ok (.iload_n 3, 1) := by decide +kernel
theorem dX12_seals_361 : decode cX12_seals 361 = .ok (.iload 6, 2) := by decide +kernel
theorem dX12_seals_363 : decode cX12_seals 363 = .ok (.invokevirtual 413, 3) := by decide +kernel
theorem dX12_seals_366 : decode cX12_seals 366 = .ok (.istore 7, 2) := by decide +kernel
theorem dX12_seals_368 : decode cX12_seals 368 = .ok (.aload_n 0, 1) := by decide +kernel
theorem dX12_seals_369 : decode cX12_seals 369 = .ok (.getfield 127, 3) := by decide +kernel
theorem dX12_seals_372 : decode cX12_seals 372 = .ok (.bipush 6, 2) := by decide +kernel
theorem dX12_seals_374 : decode cX12_seals 374 = .ok (.iload 4, 2) := by decide +kernel
theorem dX12_seals_376 : decode cX12_seals 376 = .ok (.imul, 1) := by decide +kernel
theorem dX12_seals_377 : decode cX12_seals 377 = .ok (.iload 6, 2) := by decide +kernel
theorem dX12_seals_379 : decode cX12_seals 379 = .ok (.iadd, 1) := by decide +kernel
theorem dX12_seals_380 : decode cX12_seals 380 = .ok (.iload 7, 2) := by decide +kernel
theorem dX12_seals_382 : decode cX12_seals 382 = .ok (.ifCond .lt 13, 3) := by decide +kernel
theorem dX12_seals_385 : decode cX12_seals 385 = .ok (.aload_n 0, 1) := by decide +kernel
theorem dX12_seals_386 : decode cX12_seals 386 = .ok (.iconst 0, 1) := by decide +kernel
theorem dX12_seals_387 : decode cX12_seals 387 = .ok (.iload 7, 2) := by decide +kernel
theorem dX12_seals_389 : decode cX12_seals 389 = .ok (.invokevirtual 378, 3) := by decide +kernel
theorem dX12_seals_392 : decode cX12_seals 392 = .ok (.goto 25, 3) := by decide +kernel
theorem dX12_seals_395 : decode cX12_seals 395 = .ok (.iload 5, 2) := by decide +kernel
theorem dX12_seals_397 : decode cX12_seals 397 = .ok (.iload 6, 2) := by decide +kernel
theorem dX12_seals_399 : decode cX12_seals 399 = .ok (.invokestatic 367, 3) := by decide +kernel
theorem dX12_seals_402 : decode cX12_seals 402 = .ok (.ifCond .eq 13, 3) := by decide +kernel
theorem dX12_seals_405 : decode cX12_seals 405 = .ok (.aload_n 0, 1) := by decide +kernel
theorem dX12_seals_406 : decode cX12_seals 406 = .ok (.getfield 151, 3) := by decide +kernel
theorem dX12_seals_409 : decode cX12_seals 409 = .ok (.iload 6, 2) := by decide +kernel
theorem dX12_seals_411 : decode cX12_seals 411 = .ok (.iaload, 1) := by decide +kernel
theorem dX12_seals_412 : decode cX12_seals 412 = .ok (.goto 5, 3) := by decide +kernel
theorem dX12_seals_415 : decode cX12_seals 415 = .ok (.iload 7, 2) := by decide +kernel
theorem dX12_seals_417 : decode cX12_seals 417 = .ok (.iastore, 1) := by decide +kernel
theorem dX12_seals_418 : decode cX12_seals 418 = .ok (.iinc 6 1, 3) := by decide +kernel
theorem dX12_seals_421 : decode cX12_seals 421 = .ok (.goto (-69), 3) := by decide +kernel
theorem dX12_seals_424 : decode cX12_seals 424 = .ok (.iconst 0, 1) := by decide +kernel
theorem dX12_seals_425 : decode cX12_seals 425 = .ok (.istore 6, 2) := by decide +kernel
theorem dX12_seals_427 : decode cX12_seals 427 = .ok (.iload 6, 2) := by decide +kernel
theorem dX12_seals_429 : decode cX12_seals 429 = .ok (.bipush 10, 2) := by decide +kernel
theorem dX12_seals_431 : decode cX12_seals 431 = .ok (.if_icmp .ge 72, 3) := by decide +kernel
theorem dX12_seals_434 : decode cX12_seals 434 = .ok (.aload_n 0, 1) := by decide +kernel
theorem dX12_seals_435 : decode cX12_seals 435 = .ok (.iload_n 3, 1) := by decide +kernel
theorem dX12_seals_436 : decode cX12_seals 436 = .ok (.iload 6, 2) := by decide +kernel
theorem dX12_seals_438 : decode cX12_seals 438 = .ok (.invokevirtual 388, 3) := by decide +kernel
theorem dX12_seals_441 : decode cX12_seals 441 = .ok (.iconst (-1), 1) := by decide +kernel
theorem dX12_seals_442 : decode cX12_seals 442 = .ok (.if_icmp .eq 55, 3) := by decide +kernel
theorem dX12_seals_445 : decode cX12_seals 445 = .ok (.aload_n 0, 1) := by decide +kernel
theorem dX12_seals_446 : decode cX12_seals 446 = .ok (.iload 4, 2) := by decide +kernel
theorem dX12_seals_448 : decode cX12_seals 448 = .ok (.iload 6, 2) := by decide +kernel
theorem dX12_seals_450 : decode cX12_seals 450 = .ok (.aload_n 0, 1) := by decide +kernel
theorem dX12_seals_451 : decode cX12_seals 451 = .ok (.iconst 0, 1) := by decide +kernel
theorem dX12_seals_452 : decode cX12_seals 452 = .ok (.aload_n 0, 1) := by decide +kernel
theorem dX12_seals_453 : decode cX12_seals 453 = .ok (.iload_n 3, 1) := by decide +kernel
theorem dX12_seals_454 : decode cX12_seals 454 = .ok (.iload 6, 2) := by decide +kernel
theorem dX12_seals_456 : decode cX12_seals 456 = .ok (.invokevirtual 388, 3) := by decide +kernel
theorem dX12_seals_459 : decode cX12_seals 459 = .ok (.invokevirtual 378, 3) := by decide +kernel
theorem dX12_seals_462 : decode cX12_seals 462 = .ok (.aload_n 0, 1) := by decide +kernel
theorem dX12_seals_463 : decode cX12_seals 463 = .ok (.iload_n 2, 1) := by decide +kernel
theorem dX12_seals_464 : decode cX12_seals 464 = .ok (.iload 6, 2) := by decide +kernel
theorem dX12_seals_466 : decode cX12_seals 466 = .ok (.invokevirtual 398, 3) := by decide +kernel
theorem dX12_seals_469 : decode cX12_seals 469 = .ok (.ifCond .eq 7, 3) := by decide +kernel
theorem dX12_seals_472 : decode cX12_seals 472 = .ok (.iconst 1, 1) := by decide +kernel
theorem dX12_seals_473 : decode cX12_seals 473 = .ok (.goto 4, 3) := by decide +kernel
theorem dX12_seals_476 : decode cX12_seals 476 = .ok (.iconst 0, 1) := by decide +kernel
theorem dX12_seals_477 : decode cX12_seals 477 = .ok (.aload_n 0, 1) := by decide +kernel
theorem dX12_seals_478 : decode cX12_seals 478 = .ok (.iload_n 3, 1) := by decide +kernel
theorem dX12_seals_479 : decode cX12_seals 479 = .ok (.iload 6, 2) := by decide +kernel
theorem dX12_seals_481 : decode cX12_seals 481 = .ok (.invokevirtual 410, 3) := by decide +kernel
theorem dX12_seals_484 : decode cX12_seals 484 = .ok (.ifCond .eq 7, 3) := by decide +kernel
theorem dX12_seals_487 : decode cX12_seals 487 = .ok (.iconst 2, 1) := by decide +kernel
theorem dX12_seals_488 : decode cX12_seals 488 = .ok (.goto 4, 3) := by decide +kernel
theorem dX12_seals_491 : decode cX12_seals 491 = .ok (.iconst 0, 1) := by decide +kernel
theorem dX12_seals_492 : decode cX12_seals 492 = .ok (.iadd, 1) := by decide +kernel
theorem dX12_seals_493 : decode cX12_seals 493 = .ok (.iconst 0, 1) := by decide +kernel
theorem dX12_seals_494 : decode cX12_seals 494 = .ok (.invokevirtual 394, 3) := by decide +kernel
theorem dX12_seals_497 : decode cX12_seals 497 = .ok (.iinc 6 1, 3) := by decide +kernel
theorem dX12_seals_500 : decode cX12_seals 500 = .ok (.goto (-73), 3) := by decide +kernel
theorem dX12_seals_503 : decode cX12_seals 503 = .ok (.iconst 0, 1) := by decide +kernel
theorem dX12_seals_504 : decode cX12_seals 504 = .ok (.ireturn, 1) := by decide +kernel
theorem dX12_sealsValue_0 : decode cX12_sealsValue 0 = .ok (.aload_n 0, 1) := by decide +kernel
theorem dX12_sealsValue_1 : decode cX12_sealsValue 1 = .ok (.iload_n 1, 1) := by decide +kernel
theorem dX12_sealsValue_2 : decode cX12_sealsValue 2 = .ok (.iload_n 3, 1) := by decide +kernel
theorem dX12_sealsValue_3 : decode cX12_sealsValue 3 = .ok (.invokevirtual 388, 3) := by decide +kernel
theorem dX12_sealsValue_6 : decode cX12_sealsValue 6 = .ok (.iconst (-1), 1) := by decide +kernel
theorem dX12_sealsValue_7 : decode cX12_sealsValue 7 = .ok (.if_icmp .ne 9, 3) := by decide +kernel
theorem dX12_sealsValue_10 : decode cX12_sealsValue 10 = .ok (.sipush 500, 3) := by decide +kernel
theorem dX12_sealsValue_13 : decode cX12_sealsValue 13 = .ok (.iload_n 3, 1) := by decide +kernel
theorem dX12_sealsValue_14 : decode cX12_sealsValue 14 = .ok (.iadd, 1) := by decide +kernel
theorem dX12_sealsValue_15 : decode cX12_sealsValue 15 = .ok (.ireturn, 1) := by decide +kernel
theorem dX12_sealsValue_16 : decode cX12_sealsValue 16 = .ok (.aload_n 0, 1) := by decide +kernel
theorem dX12_sealsValue_17 : decode cX12_sealsValue 17 = .ok (.iconst 0, 1) := by decide +kernel
theorem dX12_sealsValue_18 : decode cX12_sealsValue 18 = .ok (.aload_n 0, 1) := by decide +kernel
theorem dX12_sealsValue_19 : decode cX12_sealsValue 19 = .ok (.iload_n 2, 1) := by decide +kernel
theorem dX12_sealsValue_20 : decode cX12_sealsValue 20 = .ok (.iload_n 3, 1) := by decide +kernel
theorem dX12_sealsValue_21 : decode cX12_sealsValue 21 = .ok (.invokevirtual 388, 3) := by decide +kernel
theorem dX12_sealsValue_24 : decode cX12_sealsValue 24 = .ok (.invokevirtual 378, 3) := by decide +kernel
theorem dX12_sealsValue_27 : decode cX12_sealsValue 27 = .ok (.istore 4, 2) := by decide +kernel
theorem dX12_sealsValue_29 : decode cX12_sealsValue 29 = .ok (.aload_n 0, 1) := by decide +kernel
theorem dX12_sealsValue_30 : decode cX12_sealsValue 30 = .ok (.getfield 84, 3) := by decide +kernel
theorem dX12_sealsValue_33 : decode cX12_sealsValue 33 = .ok (.iload 4, 2) := by decide +kernel
theorem dX12_sealsValue_35 : decode cX12_sealsValue 35 = .ok (.iaload, 1) := by decide +kernel
theorem dX12_sealsValue_36 : decode cX12_sealsValue 36 = .ok (.sipush 200, 3) := by decide +kernel
theorem dX12_sealsValue_39 : decode cX12_sealsValue 39 = .ok (.if_icmp .le 9, 3) := by decide +kernel
theorem dX12_sealsValue_42 : decode cX12_sealsValue 42 = .ok (.sipush 700, 3) := by decide +kernel
theorem dX12_sealsValue_45 : decode cX12_sealsValue 45 = .ok (.iload_n 3, 1) := by decide +kernel
theorem dX12_sealsValue_46 : decode cX12_sealsValue 46 = .ok (.iadd, 1) := by decide +kernel
theorem dX12_sealsValue_47 : decode cX12_sealsValue 47 = .ok (.ireturn, 1) := by decide +kernel
theorem dX12_sealsValue_48 : decode cX12_sealsValue 48 = .ok (.iload 4, 2) := by decide +kernel
theorem dX12_sealsValue_50 : decode cX12_sealsValue 50 = .ok (.aload_n 0, 1) := by decide +kernel
theorem dX12_sealsValue_51 : decode cX12_sealsValue 51 = .ok (.iload_n 1, 1) := by decide +kernel
theorem dX12_sealsValue_52 : decode cX12_sealsValue 52 = .ok (.iload_n 3, 1) := by decide +kernel
theorem dX12_sealsValue_53 : decode cX12_sealsValue 53 = .ok (.invokevirtual 388, 3) := by decide +kernel
theorem dX12_sealsValue_56 : decode cX12_sealsValue 56 = .ok (.if_icmp .eq 9, 3) := by decide +kernel
theorem dX12_sealsValue_59 : decode cX12_sealsValue 59 = .ok (.sipush 200, 3) := by decide +kernel
theorem dX12_sealsValue_62 : decode cX12_sealsValue 62 = .ok (.iload_n 3, 1) := by decide +kernel
theorem dX12_sealsValue_63 : decode cX12_sealsValue 63 = .ok (.iadd, 1) := by decide +kernel
theorem dX12_sealsValue_64 : decode cX12_sealsValue 64 = .ok (.ireturn, 1) := by decide +kernel
theorem dX12_sealsValue_65 : decode cX12_sealsValue 65 = .ok (.aload_n 0, 1) := by decide +kernel
theorem dX12_sealsValue_66 : decode cX12_sealsValue 66 = .ok (.iload_n 1, 1) := by decide +kernel
theorem dX12_sealsValue_67 : decode cX12_sealsValue 67 = .ok (.iload_n 3, 1) := by decide +kernel
theorem dX12_sealsValue_68 : decode cX12_sealsValue 68 = .ok (.invokevirtual 410, 3) := by decide +kernel
theorem dX12_sealsValue_71 : decode cX12_sealsValue 71 = .ok (.ifCond .eq 20, 3) := by decide +kernel
theorem dX12_sealsValue_74 : decode cX12_sealsValue 74 = .ok (.aload_n 0, 1) := by decide +kernel
theorem dX12_sealsValue_75 : decode cX12_sealsValue 75 = .ok (.iload_n 2, 1) := by decide +kernel
theorem dX12_sealsValue_76 : decode cX12_sealsValue 76 = .ok (.iload_n 3, 1) := by decide +kernel
theorem dX12_sealsValue_77 : decode cX12_sealsValue 77 = .ok (.invokevirtual 410, 3) := by decide +kernel
theorem dX12_sealsValue_80 : decode cX12_sealsValue 80 = .ok (.ifCond .ne 11, 3) := by decide +kernel
theorem dX12_sealsValue_83 : decode cX12_sealsValue 83 = .ok (.sipush 600, 3) := by decide +kernel
theorem dX12_sealsValue_86 : decode cX12_sealsValue 86 = .ok (.iload_n 3, 1) := by decide +kernel
theorem dX12_sealsValue_87 : decode cX12_sealsValue 87 = .ok (.iadd, 1) := by decide +kernel
theorem dX12_sealsValue_88 : decode cX12_sealsValue 88 = .ok (.goto 4, 3) := by decide +kernel
theorem dX12_sealsValue_91 : decode cX12_sealsValue 91 = .ok (.iconst 0, 1) := by decide +kernel
theorem dX12_sealsValue_92 : decode cX12_sealsValue 92 = .ok (.ireturn, 1) := by decide +kernel
theorem dX12_applies_0 : decode cX12_applies 0 = .ok (.aload_n 0, 1) := by decide +kernel
theorem dX12_applies_1 : decode cX12_applies 1 = .ok (.aload_n 0, 1) := by decide +kernel
theorem dX12_applies_2 : decode cX12_applies 2 = .ok (.getfield 70, 3) := by decide +kernel
theorem dX12_applies_5 : decode cX12_applies 5 = .ok (.iload_n 1, 1) := by decide +kernel
theorem dX12_applies_6 : decode cX12_applies 6 = .ok (.baload, 1) := by decide +kernel
theorem dX12_applies_7 : decode cX12_applies 7 = .ok (.ifCond .eq 8, 3) := by decide +kernel
theorem dX12_applies_10 : decode cX12_applies 10 = .ok (.bipush 12, 2) := by decide +kernel
theorem dX12_applies_12 : decode cX12_applies 12 = .ok (.goto 5, 3) := by decide +kernel
theorem dX12_applies_15 : decode cX12_applies 15 = .ok (.bipush 13, 2) := by decide +kernel
theorem dX12_applies_17 : decode cX12_applies 17 = .ok (.putfield 342, 3) := by decide +kernel
theorem dX12_applies_20 : decode cX12_applies 20 = .ok (.aload_n 0, 1) := by decide +kernel
theorem dX12_applies_21 : decode cX12_applies 21 = .ok (.aload_n 0, 1) := by decide +kernel
theorem dX12_applies_22 : decode cX12_applies 22 = .ok (.getfield 70, 3) := by decide +kernel
theorem dX12_applies_25 : decode cX12_applies 25 = .ok (.iload_n 1, 1) := by decide +kernel
theorem dX12_applies_26 : decode cX12_applies 26 = .ok (.baload, 1) := by decide +kernel
theorem dX12_applies_27 : decode cX12_applies 27 = .ok (.ifCond .eq 7, 3) := by decide +kernel
theorem dX12_applies_30 : decode cX12_applies 30 = .ok (.iload_n 1, 1) := by decide +kernel
theorem dX12_applies_31 : decode cX12_applies 31 = .ok (.goto 14, 3) := by decide +kernel
theorem dX12_applies_34 : decode cX12_applies 34 = .ok (.aload_n 0, 1) := by decide +kernel
theorem dX12_applies_35 : decode cX12_applies 35 = .ok (.getfield 142, 3) := by decide +kernel
theorem dX12_applies_38 : decode cX12_applies 38 = .ok (.aload_n 0, 1) := by decide +kernel
theorem dX12_applies_39 : decode cX12_applies 39 = .ok (.getfield 61, 3) := by decide +kernel
theorem dX12_applies_42 : decode cX12_applies 42 = .ok (.iload_n 1, 1) := by decide +kernel
theorem dX12_applies_43 : decode cX12_applies 43 = .ok (.iaload, 1) := by decide +kernel
theorem dX12_applies_44 : decode cX12_applies 44 = .ok (.iaload, 1) := by decide +kernel
theorem dX12_applies_45 : decode cX12_applies 45 = .ok (.putfield 345, 3) := by decide +kernel
theorem dX12_applies_48 : decode cX12_applies 48 = .ok (.aload_n 0, 1) := by decide +kernel
theorem dX12_applies_49 : decode cX12_applies 49 = .ok (.iload_n 2, 1) := by decide +kernel
theorem dX12_applies_50 : decode cX12_applies 50 = .ok (.bipush 40, 2) := by decide +kernel
theorem dX12_applies_52 : decode cX12_applies 52 = .ok (.invokevirtual 424, 3) := by decide +kernel
theorem dX12_applies_55 : decode cX12_applies 55 = .ok (.aload_n 0, 1) := by decide +kernel
theorem dX12_applies_56 : decode cX12_applies 56 = .ok (.iload_n 3, 1) := by decide +kernel
theorem dX12_applies_57 : decode cX12_applies 57 = .ok (.bipush 41, 2) := by decide +kernel
theorem dX12_applies_59 : decode cX12_applies 59 = .ok (.invokevirtual 424, 3) := by decide +kernel
theorem dX12_applies_62 : decode cX12_applies 62 = .ok (.iconst 0, 1) := by decide +kernel
theorem dX12_applies_63 : decode cX12_applies 63 = .ok (.istore 5, 2) := by decide +kernel
theorem dX12_applies_65 : decode cX12_applies 65 = .ok (.iload 5, 2) := by decide +kernel
theorem dX12_applies_67 : decode cX12_applies 67 = .ok (.bipush 6, 2) := by decide +kernel
theorem dX12_applies_69 : decode cX12_applies 69 = .ok (.if_icmp .ge 52, 3) := by decide +kernel
theorem dX12_applies_72 : decode cX12_applies 72 = .ok (.aload_n 0, 1) := by decide +kernel
theorem dX12_applies_73 : decode cX12_applies 73 = .ok (.getfield 127, 3) := by decide +kernel
theorem dX12_applies_76 : decode cX12_applies 76 = .ok (.sipush 240, 3) := by decide +kernel
theorem dX12_applies_79 : decode cX12_applies 79 = .ok (.iload 5, 2) := by decide +kernel
theorem dX12_applies_81 : decode cX12_applies 81 = .ok (.iadd, 1) := by decide +kernel
theorem dX12_applies_82 : decode cX12_applies 82 = .ok (.aload_n 0, 1) := by decide +kernel
theorem dX12_applies_83 : decode cX12_applies 83 = .ok (.iload_n 2, 1) := by decide +kernel
theorem dX12_applies_84 : decode cX12_applies 84 = .ok (.iload 5, 2) := by decide +kernel
theorem dX12_applies_86 : decode cX12_applies 86 = .ok (.invokevirtual 413, 3) := by decide +kernel
theorem dX12_applies_89 : decode cX12_applies 89 = .ok (.ifCond .lt 18, 3) := by decide +kernel
theorem dX12_applies_92 : decode cX12_applies 92 = .ok (.aload_n 0, 1) := by decide +kernel
theorem dX12_applies_93 : decode cX12_applies 93 = .ok (.iconst 1, 1) := by decide +kernel
theorem dX12_applies_94 : decode cX12_applies 94 = .ok (.aload_n 0, 1) := by decide +kernel
theorem dX12_applies_95 : decode cX12_applies 95 = .ok (.iload_n 2, 1) := by decide +kernel
theorem dX12_applies_96 : decode cX12_applies 96 = .ok (.iload 5, 2) := by decide +kernel
theorem dX12_applies_98 : decode cX12_applies 98 = .ok (.invokevirtual 413, 3) := by decide +kernel
theorem dX12_applies_101 : decode cX12_applies 101 = .ok (.invokevirtual 378, 3) := by decide +kernel
theorem dX12_applies_104 : decode cX12_applies 104 = .ok (.goto 10, 3) := by decide +kernel
theorem dX12_applies_107 : decode cX12_applies 107 = .ok (.aload_n 0, 1) := by decide +kernel
theorem dX12_applies_108 : decode cX12_applies 108 = .ok (.iload_n 2, 1) := by decide +kernel
theorem dX12_applies_109 : decode cX12_applies 109 = .ok (.iload 5, 2) := by decide +kernel
theorem dX12_applies_111 : decode cX12_applies 111 = .ok (.invokevirtual 413, 3) := by decide +kernel
theorem dX12_applies_114 : decode cX12_applies 114 = .ok (.iastore, 1) := by decide +kernel
theorem dX12_applies_115 : decode cX12_applies 115 = .ok (.iinc 5 1, 3) := by decide +kernel
theorem dX12_applies_118 : decode cX12_applies 118 = .ok (.goto (-53), 3) := by decide +kernel
theorem dX12_applies_121 : decode cX12_applies 121 = .ok (.iconst 0, 1) := by decide +kernel
theorem dX12_applies_122 : decode cX12_applies 122 = .ok (.istore 5, 2) := by decide +kernel
theorem dX12_applies_124 : decode cX12_applies 124 = .ok (.iload 5, 2) := by decide +kernel
theorem dX12_applies_126 : decode cX12_applies 126 = .ok (.bipush 10, 2) := by decide +kernel
theorem dX12_applies_128 : decode cX12_applies 128 = .ok (.if_icmp .ge 58, 3) := by decide +kernel
theorem dX12_applies_131 : decode cX12_applies 131 = .ok (.aload_n 0, 1) := by decide +kernel
theorem dX12_applies_132 : decode cX12_applies 132 = .ok (.iload_n 2, 1) := by decide +kernel
theorem dX12_applies_133 : decode cX12_applies 133 = .ok (.iload 5, 2) := by decide +kernel
theorem dX12_applies_135 : decode cX12_applies 135 = .ok (.invokevirtual 388, 3) := by decide +kernel
theorem dX12_applies_138 : decode cX12_applies 138 = .ok (.iconst (-1), 1) := by decide +kernel
theorem dX12_applies_139 : decode cX12_applies 139 = .ok (.if_icmp .eq 29, 3) := by decide +kernel
theorem dX12_applies_142 : decode cX12_applies 142 = .ok (.aload_n 0, 1) := by decide +kernel
theorem dX12_applies_143 : decode cX12_applies 143 = .ok (.getfield 130, 3) := by decide +kernel
theorem dX12_applies_146 : decode cX12_applies 146 = .ok (.sipush 400, 3) := by decide +kernel
theorem dX12_applies_149 : decode cX12_applies 149 = .ok (.iload 5, 2) := by decide +kernel
theorem dX12_applies_151 : decode cX12_applies 151 = .ok (.iadd, 1) := by decide +kernel
theorem dX12_applies_152 : decode cX12_applies 152 = .ok (.aload_n 0, 1) := by decide +kernel
theorem dX12_applies_153 : decode cX12_applies 153 = .ok (.iconst 1, 1) := by decide +kernel
theorem dX12_applies_154 : decode cX12_applies 154 = .ok (.aload_n 0, 1) := by decide +kernel
theorem dX12_applies_155 : decode cX12_applies 155 = .ok (.iload_n 2, 1) := by decide +kernel
theorem dX12_applies_156 : decode cX12_applies 156 = .ok (.iload 5, 2) := by decide +kernel
theorem dX12_applies_158 : decode cX12_applies 158 = .ok (.invokevirtual 388, 3) := by decide +kernel
theorem dX12_applies_161 : decode cX12_applies 161 = .ok (.invokevirtual 378, 3) := by decide +kernel
theorem dX12_applies_164 : decode cX12_applies 164 = .ok (.iastore, 1) := by decide +kernel
theorem dX12_applies_165 : decode cX12_applies 165 = .ok (.goto 15, 3) := by decide +kernel
theorem dX12_applies_168 : decode cX12_applies 168 = .ok (.aload_n 0, 1) := by decide +kernel
theorem dX12_applies_169 : decode cX12_applies 169 = .ok (.getfield 130, 3) := by decide +kernel
theorem dX12_applies_172 : decode cX12_applies 172 = .ok (.sipush 410, 3) := by decide +kernel
theorem dX12_applies_175 : decode cX12_applies 175 = .ok (.iload 5, 2) := by decide +kernel
theorem dX12_applies_177 : decode cX12_applies 177 = .ok (.iadd, 1) := by decide +kernel
theorem dX12_applies_178 : decode cX12_applies 178 = .ok (.iconst (-1), 1) := by decide +kernel
theorem dX12_applies_179 : decode cX12_applies 179 = .ok (.iastore, 1) := by decide +kernel
theorem dX12_applies_180 : decode cX12_applies 180 = .ok (.iinc 5 1, 3) := by decide +kernel
theorem dX12_applies_183 : decode cX12_applies 183 = .ok (.goto (-59), 3) := by decide +kernel
theorem dX12_applies_186 : decode cX12_applies 186 = .ok (.aload_n 0, 1) := by decide +kernel
theorem dX12_applies_187 : decode cX12_applies 187 = .ok (.bipush 42, 2) := by decide +kernel
theorem dX12_applies_189 : decode cX12_applies 189 = .ok (.invokevirtual 428, 3) := by decide +kernel
theorem dX12_applies_192 : decode cX12_applies 192 = .ok (.aload_n 0, 1) := by decide +kernel
theorem dX12_applies_193 : decode cX12_applies 193 = .ok (.bipush 40, 2) := by decide +kernel
theorem dX12_applies_195 : decode cX12_applies 195 = .ok (.bipush 41, 2) := by decide +kernel
theorem dX12_applies_197 : decode cX12_applies 197 = .ok (.bipush 42, 2) := by decide +kernel
theorem dX12_applies_199 : decode cX12_applies 199 = .ok (.invokevirtual 431, 3) := by decide +kernel
theorem dX12_applies_202 : decode cX12_applies 202 = .ok (.istore 5, 2) := by decide +kernel
theorem dX12_applies_204 : decode cX12_applies 204 = .ok (.iload 5, 2) := by decide +kernel
theorem dX12_applies_206 : decode cX12_applies 206 = .ok (.ifCond .eq 6, 3) := by decide +kernel
theorem dX12_applies_209 : decode cX12_applies 209 = .ok (.iload 5, 2) := by decide +kernel
theorem dX12_applies_211 : decode cX12_applies 211 = .ok (.ireturn, 1) := by decide +kernel
theorem dX12_applies_212 : decode cX12_applies 212 = .ok (.iconst 0, 1) := by decide +kernel
theorem dX12_applies_213 : decode cX12_applies 213 = .ok (.istore 6, 2) := by decide +kernel
theorem dX12_applies_215 : decode cX12_applies 215 = .ok (.iload 6, 2) := by decide +kernel
theorem dX12_applies_217 : decode cX12_applies 217 = .ok (.bipush 6, 2) := by decide +kernel
theorem dX12_applies_219 : decode cX12_applies 219 = .ok (.if_icmp .ge 37, 3) := by decide +kernel
theorem dX12_applies_222 : decode cX12_applies 222 = .ok (.aload_n 0, 1) := by decide +kernel
theorem dX12_applies_223 : decode cX12_applies 223 = .ok (.iload_n 2, 1) := by decide +kernel
theorem dX12_applies_224 : decode cX12_applies 224 = .ok (.iload 6, 2) := by decide +kernel
theorem dX12_applies_226 : decode cX12_applies 226 = .ok (.invokevirtual 413, 3) := by decide +kernel
theorem dX12_applies_229 : decode cX12_applies 229 = .ok (.iconst (-1), 1) := by decide +kernel
theorem dX12_applies_230 : decode cX12_applies 230 = .ok (.if_icmp .ne 20, 3) := by decide +kernel
theorem dX12_applies_233 : decode cX12_applies 233 = .ok (.aload_n 0, 1) := by decide +kernel
theorem dX12_applies_234 : decode cX12_applies 234 = .ok (.iload_n 3, 1) := by decide +kernel
theorem dX12_applies_235 : decode cX12_applies 235 = .ok (.iload 6, 2) := by decide +kernel
theorem dX12_applies_237 : decode cX12_applies 237 = .ok (.invokevirtual 413, 3) := by decide +kernel
theorem dX12_applies_240 : decode cX12_applies 240 = .ok (.ifCond .ge 10, 3) := by decide +kernel
theorem dX12_applies_243 : decode cX12_applies 243 = .ok (.sipush 550, 3) := by decide +kernel
theorem dX12_applies_246 : decode cX12_applies 246 = .ok (.iload 6, 2) := by decide +kernel
theorem dX12_applies_248 : decode cX12_applies 248 = .ok (.iadd, 1) := by decide +kernel
theorem dX12_applies_249 : decode cX12_applies 249 = .ok (.ireturn, 1) := by decide +kernel
theorem dX12_applies_250 : decode cX12_applies 250 = .ok (.iinc 6 1, 3) := by decide +kernel
theorem dX12_applies_253 : decode cX12_applies 253 = .ok (.goto (-38), 3) := by decide +kernel
theorem dX12_applies_256 : decode cX12_applies 256 = .ok (.iconst 0, 1) := by decide +kernel
theorem dX12_applies_257 : decode cX12_applies 257 = .ok (.istore 6, 2) := by decide +kernel
theorem dX12_applies_259 : decode cX12_applies 259 = .ok (.iload 6, 2) := by decide +kernel
theorem dX12_applies_261 : decode cX12_applies 261 = .ok (.bipush 10, 2) := by decide +kernel
theorem dX12_applies_263 : decode cX12_applies 263 = .ok (.if_icmp .ge 58, 3) := by decide +kernel
theorem dX12_applies_266 : decode cX12_applies 266 = .ok (.aload_n 0, 1) := by decide +kernel
theorem dX12_applies_267 : decode cX12_applies 267 = .ok (.iload_n 2, 1) := by decide +kernel
theorem dX12_applies_268 : decode cX12_applies 268 = .ok (.iload 6, 2) := by decide +kernel
theorem dX12_applies_270 : decode cX12_applies 270 = .ok (.invokevirtual 388, 3) := by decide +kernel
theorem dX12_applies_273 : decode cX12_applies 273 = .ok (.iconst (-1), 1) := by decide +kernel
theorem dX12_applies_274 : decode cX12_applies 274 = .ok (.if_icmp .eq 41, 3) := by decide +kernel
theorem dX12_applies_277 : decode cX12_applies 277 = .ok (.aload_n 0, 1) := by decide +kernel
theorem dX12_applies_278 : decode cX12_applies 278 = .ok (.iload_n 2, 1) := by decide +kernel
theorem dX12_applies_279 : decode cX12_applies 279 = .ok (.iload 6, 2) := by decide +kernel
theorem dX12_applies_281 : decode cX12_applies 281 = .ok (.invokevirtual 398, 3) := by decide +kernel
theorem dX12_applies_284 : decode cX12_applies 284 = .ok (.ifCond .eq 31, 3) := by decide +kernel
theorem dX12_applies_287 : decode cX12_applies 287 = .ok (.aload_n 0, 1) := by decide +kernel
theorem dX12_applies_288 : decode cX12_applies 288 = .ok (.iload_n 3, 1) := by decide +kernel
theorem dX12_applies_289 : decode cX12_applies 289 = .ok (.iload 6, 2) := by decide +kernel
theorem dX12_applies_291 : decode cX12_applies 291 = .ok (.invokevirtual 388, 3) := by decide +kernel
theorem dX12_applies_294 : decode cX12_applies 294 = .ok (.iconst (-1), 1) := by decide +kernel
theorem dX12_applies_295 : decode cX12_applies 295 = .ok (.if_icmp .eq 13, 3) := by decide +kernel
theorem dX12_applies_298 : decode cX12_applies 298 = .ok (.aload_n 0, 1) := by decide +kernel
theorem dX12_applies_299 : decode cX12_applies 299 = .ok (.iload_n 3, 1) := by decide +kernel
theorem dX12_applies_300 : decode cX12_applies 300 = .ok (.iload 6, 2) := by decide +kernel
theorem dX12_applies_302 : decode cX12_applies 302 = .ok (.invokevirtual 398, 3) := by decide +kernel
theorem dX12_applies_305 : decode cX12_applies 305 = .ok (.ifCond .eq 10, 3) := by decide +kernel
theorem dX12_applies_308 : decode cX12_applies 308 = .ok (.sipush 500, 3) := by decide +kernel
theorem dX12_applies_311 : decode cX12_applies 311 = .ok (.iload 6, 2) := by decide +kernel
theorem dX12_applies_313 : decode cX12_applies 313 = .ok (.iadd, 1) := by decide +kernel
theorem dX12_applies_314 : decode cX12_applies 314 = .ok (.ireturn, 1) := by decide +kernel
theorem dX12_applies_315 : decode cX12_applies 315 = .ok (.iinc 6 1, 3) := by decide +kernel
theorem dX12_applies_318 : decode cX12_applies 318 = .ok (.goto (-59), 3) := by decide +kernel
theorem dX12_applies_321 : decode cX12_applies 321 = .ok (.iconst 0, 1) := by decide +kernel
theorem dX12_applies_322 : decode cX12_applies 322 = .ok (.istore 6, 2) := by decide +kernel
theorem dX12_applies_324 : decode cX12_applies 324 = .ok (.iload 6, 2) := by decide +kernel
theorem dX12_applies_326 : decode cX12_applies 326 = .ok (.bipush 6, 2) := by decide +kernel
theorem dX12_applies_328 : decode cX12_applies 328 = .ok (.if_icmp .ge 47, 3) := by decide +kernel
theorem dX12_applies_331 : decode cX12_applies 331 = .ok (.aload_n 0, 1) := by decide +kernel
theorem dX12_applies_332 : decode cX12_applies 332 = .ok (.getfield 127, 3) := by decide +kernel
theorem dX12_applies_335 : decode cX12_applies 335 = .ok (.bipush 6, 2) := by decide +kernel
theorem dX12_applies_337 : decode cX12_applies 337 = .ok (.iload 4, 2) := by decide +kernel
theorem dX12_applies_339 : decode cX12_applies 339 = .ok (.imul, 1) := by decide +kernel
theorem dX12_applies_340 : decode cX12_applies 340 = .ok (.iload 6, 2) := by decide +kernel
theorem dX12_applies_342 : decode cX12_applies 342 = .ok (.iadd, 1) := by decide +kernel
theorem dX12_applies_343 : decode cX12_applies 343 = .ok (.aload_n 0, 1) := by decide +kernel
theorem dX12_applies_344 : decode cX12_applies 344 = .ok (.iload_n 2, 1) := by decide +kernel
theorem dX12_applies_345 : decode cX12_applies 345 = .ok (.iload 6, 2) := by decide +kernel
theorem dX12_applies_347 : decode cX12_applies 347 = .ok (.invokevirtual 413, 3) := by decide +kernel
theorem dX12_applies_350 : decode cX12_applies 350 = .ok (.bipush (-2), 2) := by decide +kernel
theorem dX12_applies_352 : decode cX12_applies 352 = .ok (.if_icmp .ne 8, 3) := by decide +kernel
theorem dX12_applies_355 : decode cX12_applies 355 = .ok (.bipush (-2), 2) := by decide +kernel
theorem dX12_applies_357 : decode cX12_applies 357 = .ok (.goto 11, 3) := by decide +kernel
theorem dX12_applies_360 : decode cX12_applies 360 = .ok (.aload_n 0, 1) := by decide +kernel
theorem dX12_applies_361 : decode cX12_applies 361 = .ok (.bipush 42, 2) := by decide +kernel
theorem dX12_applies_363 : decode cX12_applies 363 = .ok (.iload 6, 2) := by decide +kernel
theorem dX12_applies_365 : decode cX12_applies 365 = .ok (.invokevirtual 413, 3) := by decide +kernel
theorem dX12_applies_368 : decode cX12_applies 368 = .ok (.iastore, 1) := by decide +kernel
theorem dX12_applies_369 : decode cX12_applies 369 = .ok (.iinc 6 1, 3) := by decide +kernel
theorem dX12_applies_372 : decode cX12_applies 372 = .ok (.goto (-48), 3) := by decide +kernel
theorem dX12_applies_375 : decode cX12_applies 375 = .ok (.iconst 0, 1) := by decide +kernel
theorem dX12_applies_376 : decode cX12_applies 376 = .ok (.istore 6, 2) := by decide +kernel
theorem dX12_applies_378 : decode cX12_applies 378 = .ok (.iload 6, 2) := by decide +kernel
theorem dX12_applies_380 : decode cX12_applies 380 = .ok (.bipush 10, 2) := by decide +kernel
theorem dX12_applies_382 : decode cX12_applies 382 = .ok (.if_icmp .ge 32, 3) := by decide +kernel
theorem dX12_applies_385 : decode cX12_applies 385 = .ok (.aload_n 0, 1) := by decide +kernel
theorem dX12_applies_386 : decode cX12_applies 386 = .ok (.iload_n 2, 1) := by decide +kernel
theorem dX12_applies_387 : decode cX12_applies 387 = .ok (.iload 6, 2) := by decide +kernel
theorem dX12_applies_389 : decode cX12_applies 389 = .ok (.invokevirtual 388, 3) := by decide +kernel
theorem dX12_applies_392 : decode cX12_applies 392 = .ok (.iconst (-1), 1) := by decide +kernel
theorem dX12_applies_393 : decode cX12_applies 393 = .ok (.if_icmp .eq 15, 3) := by decide +kernel
theorem dX12_applies_396 : decode cX12_applies 396 = .ok (.aload_n 0, 1) := by decide +kernel
theorem dX12_applies_397 : decode cX12_applies 397 = .ok (.bipush 42, 2) := by decide +kernel
theorem dX12_applies_399 : decode cX12_applies 399 = .ok (.iload 6, 2) := by decide +kernel
theorem dX12_applies_401 : decode cX12_applies 401 = .ok (.iload 4, 2) := by decide +kernel
theorem dX12_applies_403 : decode cX12_applies 403 = .ok (.iload 6, 2) := by decide +kernel
theorem dX12_applies_405 : decode cX12_applies 405 = .ok (.invokevirtual 381, 3) := by decide +kernel
theorem dX12_applies_408 : decode cX12_applies 408 = .ok (.iinc 6 1, 3) := by decide +kernel
theorem dX12_applies_411 : decode cX12_applies 411 = .ok (.goto (-33), 3) := by decide +kernel
theorem dX12_applies_414 : decode cX12_applies 414 = .ok (.iconst 0, 1) := by decide +kernel
theorem dX12_applies_415 : decode cX12_applies 415 = .ok (.ireturn, 1) := by decide +kernel
theorem dX12_choiceError_0 : decode cX12_choiceError 0 = .ok (.aload_n 0, 1) := by decide +kernel
theorem dX12_choiceError_1 : decode cX12_choiceError 1 = .ok (.iconst 0, 1) := by decide +kernel
theorem dX12_choiceError_2 : decode cX12_choiceError 2 = .ok (.iconst 0, 1) := by decide +kernel
theorem dX12_choiceError_3 : decode cX12_choiceError 3 = .ok (.iconst 0, 1) := by decide +kernel
theorem dX12_choiceError_4 : decode cX12_choiceError 4 = .ok (.invokevirtual 338, 3) := by decide +kernel
theorem dX12_choiceError_7 : decode cX12_choiceError 7 = .ok (.istore 4, 2) := by decide +kernel
theorem dX12_choiceError_9 : decode cX12_choiceError 9 = .ok (.aload_n 0, 1) := by decide +kernel
theorem dX12_choiceError_10 : decode cX12_choiceError 10 = .ok (.iload_n 3, 1) := by decide +kernel
theorem dX12_choiceError_11 : decode cX12_choiceError 11 = .ok (.iconst 0, 1) := by decide +kernel
theorem dX12_choiceError_12 : decode cX12_choiceError 12 = .ok (.invokevirtual 388, 3) := by decide +kernel
theorem dX12_choiceError_15 : decode cX12_choiceError 15 = .ok (.iload 4, 2) := by decide +kernel
theorem dX12_choiceError_17 : decode cX12_choiceError 17 = .ok (.if_icmp .ne 21, 3) := by decide +kernel
theorem dX12_choiceError_20 : decode cX12_choiceError 20 = .ok (.aload_n 0, 1) := by decide +kernel
theorem dX12_choiceError_21 : decode cX12_choiceError 21 = .ok (.iload_n 3, 1) := by decide +kernel
theorem dX12_choiceError_22 : decode cX12_choiceError 22 = .ok (.iconst 0, 1) := by decide +kernel
theorem dX12_choiceError_23 : decode cX12_choiceError 23 = .ok (.invokevirtual 398, 3) := by decide +kernel
theorem dX12_choiceError_26 : decode cX12_choiceError 26 = .ok (.ifCond .ne 12, 3) := by decide +kernel
theorem dX12_choiceError_29 : decode cX12_choiceError 29 = .ok (.aload_n 0, 1) := by decide +kernel
theorem dX12_choiceError_30 : decode cX12_choiceError 30 = .ok (.iload_n 3, 1) := by decide +kernel
theorem dX12_choiceError_31 : decode cX12_choiceError 31 = .ok (.iconst 0, 1) := by decide +kernel
theorem dX12_choiceError_32 : decode cX12_choiceError 32 = .ok (.invokevirtual 410, 3) := by decide +kernel
theorem dX12_choiceError_35 : decode cX12_choiceError 35 = .ok (.ifCond .eq 7, 3) := by decide +kernel
theorem dX12_choiceError_38 : decode cX12_choiceError 38 = .ok (.sipush 500, 3) := by decide +kernel
theorem dX12_choiceError_41 : decode cX12_choiceError 41 = .ok (.ireturn, 1) := by decide +kernel
theorem dX12_choiceError_42 : decode cX12_choiceError 42 = .ok (.iconst 0, 1) := by decide +kernel
theorem dX12_choiceError_43 : decode cX12_choiceError 43 = .ok (.istore 5, 2) := by decide +kernel
theorem dX12_choiceError_45 : decode cX12_choiceError 45 = .ok (.iload 5, 2) := by decide +kernel
theorem dX12_choiceError_47 : decode cX12_choiceError 47 = .ok (.bipush 10, 2) := by decide +kernel
theorem dX12_choiceError_49 : decode cX12_choiceError 49 = .ok (.if_icmp .ge 47, 3) := by decide +kernel
theorem dX12_choiceError_52 : decode cX12_choiceError 52 = .ok (.aload_n 0, 1) := by decide +kernel
theorem dX12_choiceError_53 : decode cX12_choiceError 53 = .ok (.iload_n 3, 1) := by decide +kernel
theorem dX12_choiceError_54 : decode cX12_choiceError 54 = .ok (.iload 5, 2) := by decide +kernel
theorem dX12_choiceError_56 : decode cX12_choiceError 56 = .ok (.invokevirtual 388, 3) := by decide +kernel
theorem dX12_choiceError_59 : decode cX12_choiceError 59 = .ok (.iconst (-1), 1) := by decide +kernel
theorem dX12_choiceError_60 : decode cX12_choiceError 60 = .ok (.if_icmp .eq 30, 3) := by decide +kernel
theorem dX12_choiceError_63 : decode cX12_choiceError 63 = .ok (.aload_n 0, 1) := by decide +kernel
theorem dX12_choiceError_64 : decode cX12_choiceError 64 = .ok (.iload_n 3, 1) := by decide +kernel
theorem dX12_choiceError_65 : decode cX12_choiceError 65 = .ok (.iload 5, 2) := by decide +kernel
theorem dX12_choiceError_67 : decode cX12_choiceError 67 = .ok (.invokevirtual 398, 3) := by decide +kernel
theorem dX12_choiceError_70 : decode cX12_choiceError 70 = .ok (.ifCond .eq 20, 3) := by decide +kernel
theorem dX12_choiceError_73 : decode cX12_choiceError 73 = .ok (.aload_n 0, 1) := by decide +kernel
theorem dX12_choiceError_74 : decode cX12_choiceError 74 = .ok (.iload_n 3, 1) := by decide +kernel
theorem dX12_choiceError_75 : decode cX12_choiceError 75 = .ok (.iload 5, 2) := by decide +kernel
theorem dX12_choiceError_77 : decode cX12_choiceError 77 = .ok (.invokevirtual 410, 3) := by decide +kernel
theorem dX12_choiceError_80 : decode cX12_choiceError 80 = .ok (.ifCond .ne 10, 3) := by decide +kernel
theorem dX12_choiceError_83 : decode cX12_choiceError 83 = .ok (.sipush 800, 3) := by decide +kernel
theorem dX12_choiceError_86 : decode cX12_choiceError 86 = .ok (.iload 5, 2) := by decide +kernel
theorem dX12_choiceError_88 : decode cX12_choiceError 88 = .ok (.iadd, 1) := by decide +kernel
theorem dX12_choiceError_89 : decode cX12_choiceError 89 = .ok (.ireturn, 1) := by decide +kernel
theorem dX12_choiceError_90 : decode cX12_choiceError 90 = .ok (.iinc 5 1, 3) := by decide +kernel
theorem dX12_choiceError_93 : decode cX12_choiceError 93 = .ok (.goto (-48), 3) := by decide +kernel
theorem dX12_choiceError_96 : decode cX12_choiceError 96 = .ok (.iconst 0, 1) := by decide +kernel
theorem dX12_choiceError_97 : decode cX12_choiceError 97 = .ok (.istore 5, 2) := by decide +kernel
theorem dX12_choiceError_99 : decode cX12_choiceError 99 = .ok (.iload 5, 2) := by decide +kernel
theorem dX12_choiceError_101 : decode cX12_choiceError 101 = .ok (.bipush 6, 2) := by decide +kernel
theorem dX12_choiceError_103 : decode cX12_choiceError 103 = .ok (.if_icmp .ge 53, 3) := by decide +kernel
theorem dX12_choiceError_106 : decode cX12_choiceError 106 = .ok (.aload_n 0, 1) := by decide +kernel
theorem dX12_choiceError_107 : decode cX12_choiceError 107 = .ok (.iload_n 1, 1) := by decide +kernel
theorem dX12_choiceError_108 : decode cX12_choiceError 108 = .ok (.iload 5, 2) := by decide +kernel
theorem dX12_choiceError_110 : decode cX12_choiceError 110 = .ok (.invokevirtual 413, 3) := by decide +kernel
theorem dX12_choiceError_113 : decode cX12_choiceError 113 = .ok (.bipush (-2), 2) := by decide +kernel
theorem dX12_choiceError_115 : decode cX12_choiceError 115 = .ok (.if_icmp .ne 7, 3) := by decide +kernel
theorem dX12_choiceError_118 : decode cX12_choiceError 118 = .ok (.iconst 1, 1) := by decide +kernel
theorem dX12_choiceError_119 : decode cX12_choiceError 119 = .ok (.goto 4, 3) := by decide +kernel
theorem dX12_choiceError_122 : decode cX12_choiceError 122 = .ok (.iconst 0, 1) := by decide +kernel
theorem dX12_choiceError_123 : decode cX12_choiceError 123 = .ok (.aload_n 0, 1) := by decide +kernel
theorem dX12_choiceError_124 : decode cX12_choiceError 124 = .ok (.iload_n 2, 1) := by decide +kernel
theorem dX12_choiceError_125 : decode cX12_choiceError 125 = .ok (.iload 5, 2) := by decide +kernel
theorem dX12_choiceError_127 : decode cX12_choiceError 127 = .ok (.invokevirtual 413, 3) := by decide +kernel
theorem dX12_choiceError_130 : decode cX12_choiceError 130 = .ok (.bipush (-2), 2) := by decide +kernel
theorem dX12_choiceError_132 : decode cX12_choiceError 132 = .ok (.if_icmp .ne 7, 3) := by decide +kernel
theorem dX12_choiceError_135 : decode cX12_choiceError 135 = .ok (.iconst 1, 1) := by decide +kernel
theorem dX12_choiceError_136 : decode cX12_choiceError 136 = .ok (.goto 4, 3) := by decide +kernel
theorem dX12_choiceError_139 : decode cX12_choiceError 139 = .ok (.iconst 0, 1) := by decide +kernel
theorem dX12_choiceError_140 : decode cX12_choiceError 140 = .ok (.if_icmp .eq 10, 3) := by decide +kernel
theorem dX12_choiceError_143 : decode cX12_choiceError 143 = .ok (.sipush 550, 3) := by decide +kernel
theorem dX12_choiceError_146 : decode cX12_choiceError 146 = .ok (.iload 5, 2) := by decide +kernel
theorem dX12_choiceError_148 : decode cX12_choiceError 148 = .ok (.iadd, 1) := by decide +kernel
theorem dX12_choiceError_149 : decode cX12_choiceError 149 = .ok (.ireturn, 1) := by decide +kernel
theorem dX12_choiceError_150 : decode cX12_choiceError 150 = .ok (.iinc 5 1, 3) := by decide +kernel
theorem dX12_choiceError_153 : decode cX12_choiceError 153 = .ok (.goto (-54), 3) := by decide +kernel
theorem dX12_choiceError_156 : decode cX12_choiceError 156 = .ok (.iconst 0, 1) := by decide +kernel
theorem dX12_choiceError_157 : decode cX12_choiceError 157 = .ok (.istore 5, 2) := by decide +kernel
theorem dX12_choiceError_159 : decode cX12_choiceError 159 = .ok (.iload 5, 2) := by decide +kernel
theorem dX12_choiceError_161 : decode cX12_choiceError 161 = .ok (.bipush 10, 2) := by decide +kernel
theorem dX12_choiceError_163 : decode cX12_choiceError 163 = .ok (.if_icmp .ge 51, 3) := by decide +kernel
theorem dX12_choiceError_166 : decode cX12_choiceError 166 = .ok (.aload_n 0, 1) := by decide +kernel
theorem dX12_choiceError_167 : decode cX12_choiceError 167 = .ok (.iload_n 1, 1) := by decide +kernel
theorem dX12_choiceError_168 : decode cX12_choiceError 168 = .ok (.iload 5, 2) := by decide +kernel
theorem dX12_choiceError_170 : decode cX12_choiceError 170 = .ok (.invokevirtual 388, 3) := by decide +kernel
theorem dX12_choiceError_173 : decode cX12_choiceError 173 = .ok (.iconst (-1), 1) := by decide +kernel
theorem dX12_choiceError_174 : decode cX12_choiceError 174 = .ok (.if_icmp .ne 7, 3) := by decide +kernel
theorem dX12_choiceError_177 : decode cX12_choiceError 177 = .ok (.iconst 1, 1) := by decide +kernel
theorem dX12_choiceError_178 : decode cX12_choiceError 178 = .ok (.goto 4, 3) := by decide +kernel
theorem dX12_choiceError_181 : decode cX12_choiceError 181 = .ok (.iconst 0, 1) := by decide +kernel
theorem dX12_choiceError_182 : decode cX12_choiceError 182 = .ok (.aload_n 0, 1) := by decide +kernel
theorem dX12_choiceError_183 : decode cX12_choiceError 183 = .ok (.iload_n 2, 1) := by decide +kernel
theorem dX12_choiceError_184 : decode cX12_choiceError 184 = .ok (.iload 5, 2) := by decide +kernel
theorem dX12_choiceError_186 : decode cX12_choiceError 186 = .ok (.invokevirtual 388, 3) := by decide +kernel
theorem dX12_choiceError_189 : decode cX12_choiceError 189 = .ok (.iconst (-1), 1) := by decide +kernel
theorem dX12_choiceError_190 : decode cX12_choiceError 190 = .ok (.if_icmp .ne 7, 3) := by decide +kernel
theorem dX12_choiceError_193 : decode cX12_choiceError 193 = .ok (.iconst 1, 1) := by decide +kernel
theorem dX12_choiceError_194 : decode cX12_choiceError 194 = .ok (.goto 4, 3) := by decide +kernel
theorem dX12_choiceError_197 : decode cX12_choiceError 197 = .ok (.iconst 0, 1) := by decide +kernel
theorem dX12_choiceError_198 : decode cX12_choiceError 198 = .ok (.if_icmp .eq 10, 3) := by decide +kernel
theorem dX12_choiceError_201 : decode cX12_choiceError 201 = .ok (.sipush 500, 3) := by decide +kernel
theorem dX12_choiceError_204 : decode cX12_choiceError 204 = .ok (.iload 5, 2) := by decide +kernel
theorem dX12_choiceError_206 : decode cX12_choiceError 206 = .ok (.iadd, 1) := by decide +kernel
theorem dX12_choiceError_207 : decode cX12_choiceError 207 = .ok (.ireturn, 1) := by decide +kernel
theorem dX12_choiceError_208 : decode cX12_choiceError 208 = .ok (.iinc 5 1, 3) := by decide +kernel
theorem dX12_choiceError_211 : decode cX12_choiceError 211 = .ok (.goto (-52), 3) := by decide +kernel
theorem dX12_choiceError_214 : decode cX12_choiceError 214 = .ok (.iconst 0, 1) := by decide +kernel
theorem dX12_choiceError_215 : decode cX12_choiceError 215 = .ok (.istore 5, 2) := by decide +kernel
theorem dX12_choiceError_217 : decode cX12_choiceError 217 = .ok (.iload 5, 2) := by decide +kernel
theorem dX12_choiceError_219 : decode cX12_choiceError 219 = .ok (.bipush 6, 2) := by decide +kernel
theorem dX12_choiceError_221 : decode cX12_choiceError 221 = .ok (.if_icmp .ge 38, 3) := by decide +kernel
theorem dX12_choiceError_224 : decode cX12_choiceError 224 = .ok (.aload_n 0, 1) := by decide +kernel
theorem dX12_choiceError_225 : decode cX12_choiceError 225 = .ok (.iload_n 1, 1) := by decide +kernel
theorem dX12_choiceError_226 : decode cX12_choiceError 226 = .ok (.iload 5, 2) := by decide +kernel
theorem dX12_choiceError_228 : decode cX12_choiceError 228 = .ok (.invokevirtual 413, 3) := by decide +kernel
theorem dX12_choiceError_231 : decode cX12_choiceError 231 = .ok (.iconst (-1), 1) := by decide +kernel
theorem dX12_choiceError_232 : decode cX12_choiceError 232 = .ok (.if_icmp .eq 14, 3) := by decide +kernel
theorem dX12_choiceError_235 : decode cX12_choiceError 235 = .ok (.aload_n 0, 1) := by decide +kernel
theorem dX12_choiceError_236 : decode cX12_choiceError 236 = .ok (.iload_n 2, 1) := by decide +kernel
theorem dX12_choiceError_237 : decode cX12_choiceError 237 = .ok (.iload 5, 2) := by decide +kernel
theorem dX12_choiceError_239 : decode cX12_choiceError 239 = .ok (.invokevirtual 413, 3) := by decide +kernel
theorem dX12_choiceError_242 : decode cX12_choiceError 242 = .ok (.iconst (-1), 1) := by decide +kernel
theorem dX12_choiceError_243 : decode cX12_choiceError 243 = .ok (.if_icmp .ne 10, 3) := by decide +kernel
theorem dX12_choiceError_246 : decode cX12_choiceError 246 = .ok (.sipush 850, 3) := by decide +kernel
theorem dX12_choiceError_249 : decode cX12_choiceError 249 = .ok (.iload 5, 2) := by decide +kernel
theorem dX12_choiceError_251 : decode cX12_choiceError 251 = .ok (.iadd, 1) := by decide +kernel
theorem dX12_choiceError_252 : decode cX12_choiceError 252 = .ok (.ireturn, 1) := by decide +kernel
theorem dX12_choiceError_253 : decode cX12_choiceError 253 = .ok (.iinc 5 1, 3) := by decide +kernel
theorem dX12_choiceError_256 : decode cX12_choiceError 256 = .ok (.goto (-39), 3) := by decide +kernel
theorem dX12_choiceError_259 : decode cX12_choiceError 259 = .ok (.iconst 0, 1) := by decide +kernel
theorem dX12_choiceError_260 : decode cX12_choiceError 260 = .ok (.istore 5, 2) := by decide +kernel
theorem dX12_choiceError_262 : decode cX12_choiceError 262 = .ok (.iload 5, 2) := by decide +kernel
theorem dX12_choiceError_264 : decode cX12_choiceError 264 = .ok (.bipush 10, 2) := by decide +kernel
theorem dX12_choiceError_266 : decode cX12_choiceError 266 = .ok (.if_icmp .ge 47, 3) := by decide +kernel
theorem dX12_choiceError_269 : decode cX12_choiceError 269 = .ok (.aload_n 0, 1) := by decide +kernel
theorem dX12_choiceError_270 : decode cX12_choiceError 270 = .ok (.iload_n 1, 1) := by decide +kernel
theorem dX12_choiceError_271 : decode cX12_choiceError 271 = .ok (.iload 5, 2) := by decide +kernel
theorem dX12_choiceError_273 : decode cX12_choiceError 273 = .ok (.invokevirtual 388, 3) := by decide +kernel
theorem dX12_choiceError_276 : decode cX12_choiceError 276 = .ok (.iconst (-1), 1) := by decide +kernel
theorem dX12_choiceError_277 : decode cX12_choiceError 277 = .ok (.if_icmp .eq 30, 3) := by decide +kernel
theorem dX12_choiceError_280 : decode cX12_choiceError 280 = .ok (.aload_n 0, 1) := by decide +kernel
theorem dX12_choiceError_281 : decode cX12_choiceError 281 = .ok (.iload_n 1, 1) := by decide +kernel
theorem dX12_choiceError_282 : decode cX12_choiceError 282 = .ok (.iload 5, 2) := by decide +kernel
theorem dX12_choiceError_284 : decode cX12_choiceError 284 = .ok (.invokevirtual 398, 3) := by decide +kernel
theorem dX12_choiceError_287 : decode cX12_choiceError 287 = .ok (.ifCond .ne 13, 3) := by decide +kernel
theorem dX12_choiceError_290 : decode cX12_choiceError 290 = .ok (.aload_n 0, 1) := by decide +kernel
theorem dX12_choiceError_291 : decode cX12_choiceError 291 = .ok (.iload_n 2, 1) := by decide +kernel
theorem dX12_choiceError_292 : decode cX12_choiceError 292 = .ok (.iload 5, 2) := by decide +kernel
theorem dX12_choiceError_294 : decode cX12_choiceError 294 = .ok (.invokevirtual 398, 3) := by decide +kernel
theorem dX12_choiceError_297 : decode cX12_choiceError 297 = .ok (.ifCond .eq 10, 3) := by decide +kernel
theorem dX12_choiceError_300 : decode cX12_choiceError 300 = .ok (.sipush 800, 3) := by decide +kernel
theorem dX12_choiceError_303 : decode cX12_choiceError 303 = .ok (.iload 5, 2) := by decide +kernel
theorem dX12_choiceError_305 : decode cX12_choiceError 305 = .ok (.iadd, 1) := by decide +kernel
theorem dX12_choiceError_306 : decode cX12_choiceError 306 = .ok (.ireturn, 1) := by decide +kernel
theorem dX12_choiceError_307 : decode cX12_choiceError 307 = .ok (.iinc 5 1, 3) := by decide +kernel
theorem dX12_choiceError_310 : decode cX12_choiceError 310 = .ok (.goto (-48), 3) := by decide +kernel
theorem dX12_choiceError_313 : decode cX12_choiceError 313 = .ok (.iconst 0, 1) := by decide +kernel
theorem dX12_choiceError_314 : decode cX12_choiceError 314 = .ok (.ireturn, 1) := by decide +kernel
theorem dX12_chooses_0 : decode cX12_chooses 0 = .ok (.aload_n 0, 1) := by decide +kernel
theorem dX12_chooses_1 : decode cX12_chooses 1 = .ok (.iload_n 2, 1) := by decide +kernel
theorem dX12_chooses_2 : decode cX12_chooses 2 = .ok (.iload_n 3, 1) := by decide +kernel
theorem dX12_chooses_3 : decode cX12_chooses 3 = .ok (.iload 4, 2) := by decide +kernel
theorem dX12_chooses_5 : decode cX12_chooses 5 = .ok (.invokevirtual 434, 3) := by decide +kernel
theorem dX12_chooses_8 : decode cX12_chooses 8 = .ok (.istore 6, 2) := by decide +kernel
theorem dX12_chooses_10 : decode cX12_chooses 10 = .ok (.iload 6, 2) := by decide +kernel
theorem dX12_chooses_12 : decode cX12_chooses 12 = .ok (.ifCond .eq 6, 3) := by decide +kernel
theorem dX12_chooses_15 : decode cX12_chooses 15 = .ok (.iload 6, 2) := by decide +kernel
theorem dX12_chooses_17 : decode cX12_chooses 17 = .ok (.ireturn, 1) := by decide +kernel
theorem dX12_chooses_18 : decode cX12_chooses 18 = .ok (.iconst 0, 1) := by decide +kernel
theorem dX12_chooses_19 : decode cX12_chooses 19 = .ok (.istore 7, 2) := by decide +kernel
theorem dX12_chooses_21 : decode cX12_chooses 21 = .ok (.iload 7, 2) := by decide +kernel
theorem dX12_chooses_23 : decode cX12_chooses 23 = .ok (.bipush 6, 2) := by decide +kernel
theorem dX12_chooses_25 : decode cX12_chooses 25 = .ok (.if_icmp .ge 99, 3) := by decide +kernel
theorem dX12_chooses_28 : decode cX12_chooses 28 = .ok (.aload_n 0, 1) := by decide +kernel
theorem dX12_chooses_29 : decode cX12_chooses 29 = .ok (.iload_n 2, 1) := by decide +kernel
theorem dX12_chooses_30 : decode cX12_chooses 30 = .ok (.iload 7, 2) := by decide +kernel
theorem dX12_chooses_32 : decode cX12_chooses 32 = .ok (.invokevirtual 413, 3) := by decide +kernel
theorem dX12_chooses_35 : decode cX12_chooses 35 = .ok (.aload_n 0, 1) := by decide +kernel
theorem dX12_chooses_36 : decode cX12_chooses 36 = .ok (.iload_n 3, 1) := by decide +kernel
theorem dX12_chooses_37 : decode cX12_chooses 37 = .ok (.iload 7, 2) := by decide +kernel
theorem dX12_chooses_39 : decode cX12_chooses 39 = .ok (.invokevirtual 413, 3) := by decide +kernel
theorem dX12_chooses_42 : decode cX12_chooses 42 = .ok (.if_icmp .ne 7, 3) := by decide +kernel
theorem dX12_chooses_45 : decode cX12_chooses 45 = .ok (.iconst 1, 1) := by decide +kernel
theorem dX12_chooses_46 : decode cX12_chooses 46 = .ok (.goto 4, 3) := by decide +kernel
theorem dX12_chooses_49 : decode cX12_chooses 49 = .ok (.iconst 0, 1) := by decide +kernel
theorem dX12_chooses_50 : decode cX12_chooses 50 = .ok (.istore 8, 2) := by decide +kernel
theorem dX12_chooses_52 : decode cX12_chooses 52 = .ok (.aload_n 0, 1) := by decide +kernel
theorem dX12_chooses_53 : decode cX12_chooses 53 = .ok (.getfield 105, 3) := by decide +kernel
theorem dX12_chooses_56 : decode cX12_chooses 56 = .ok (.iload 7, 2) := by decide +kernel
theorem dX12_chooses_58 : decode cX12_chooses 58 = .ok (.iload 8, 2) := by decide +kernel
theorem dX12_chooses_60 : decode cX12_chooses 60 = .ok (.ifCond .eq 7, 3) := by decide +kernel
theorem dX12_chooses_63 : decode cX12_chooses 63 = .ok (.iconst (-1), 1) := by decide +kernel
theorem dX12_chooses_64 : decode cX12_chooses 64 = .ok (.goto 12, 3) := by decide +kernel
theorem dX12_chooses_67 : decode cX12_chooses 67 = .ok (.aload_n 0, 1) := by decide +kernel
theorem dX12_chooses_68 : decode cX12_chooses 68 = .ok (.bipush 10, 2) := by decide +kernel
theorem dX12_chooses_70 : decode cX12_chooses 70 = .ok (.iload_n 1, 1) := by decide +kernel
theorem dX12_chooses_71 : decode cX12_chooses 71 = .ok (.iload 7, 2) := by decide +kernel
theorem dX12_chooses_73 : decode cX12_chooses 73 = .ok (.invokevirtual 348, 3) := by decide +kernel
theorem dX12_chooses_76 : decode cX12_chooses 76 = .ok (.iastore, 1) := by decide +kernel
theorem dX12_chooses_77 : decode cX12_chooses 77 = .ok (.aload_n 0, 1) := by decide +kernel
theorem dX12_chooses_78 : decode cX12_chooses 78 = .ok (.getfield 127, 3) := by decide +kernel
theorem dX12_chooses_81 : decode cX12_chooses 81 = .ok (.bipush 6, 2) := by decide +kernel
theorem dX12_chooses_83 : decode cX12_chooses 83 = .ok (.iload 5, 2) := by decide +kernel
theorem dX12_chooses_85 : decode cX12_chooses 85 = .ok (.imul, 1) := by decide +kernel
theorem dX12_chooses_86 : decode cX12_chooses 86 = .ok (.iload 7, 2) := by decide +kernel
theorem dX12_chooses_88 : decode cX12_chooses 88 = .ok (.iadd, 1) := by decide +kernel
theorem dX12_chooses_89 : decode cX12_chooses 89 = .ok (.iload 8, 2) := by decide +kernel
theorem dX12_chooses_91 : decode cX12_chooses 91 = .ok (.ifCond .eq 13, 3) := by decide +kernel
theorem dX12_chooses_94 : decode cX12_chooses 94 = .ok (.aload_n 0, 1) := by decide +kernel
theorem dX12_chooses_95 : decode cX12_chooses 95 = .ok (.iload_n 2, 1) := by decide +kernel
theorem dX12_chooses_96 : decode cX12_chooses 96 = .ok (.iload 7, 2) := by decide +kernel
theorem dX12_chooses_98 : decode cX12_chooses 98 = .ok (.invokevirtual 413, 3) := by decide +kernel
theorem dX12_chooses_101 : decode cX12_chooses 101 = .ok (.goto 16, 3) := by decide +kernel
theorem dX12_chooses_104 : decode cX12_chooses 104 = .ok (.aload_n 0, 1) := by decide +kernel
theorem dX12_chooses_105 : decode cX12_chooses 105 = .ok (.iconst 2, 1) := by decide +kernel
theorem dX12_chooses_106 : decode cX12_chooses 106 = .ok (.aload_n 0, 1) := by decide +kernel
theorem dX12_chooses_107 : decode cX12_chooses 107 = .ok (.getfield 105, 3) := by decide +kernel
theorem dX12_chooses_110 : decode cX12_chooses 110 = .ok (.iload 7, 2) := by decide +kernel
theorem dX12_chooses_112 : decode cX12_chooses 112 = .ok (.iaload, 1) := by decide +kernel
theorem dX12_chooses_113 : decode cX12_chooses 113 = .ok (.iconst 0, 1) := by decide +kernel
theorem dX12_chooses_114 : decode cX12_chooses 114 = .ok (.invokevirtual 338, 3) := by decide +kernel
theorem dX12_chooses_117 : decode cX12_chooses 117 = .ok (.iastore, 1) := by decide +kernel
theorem dX12_chooses_118 : decode cX12_chooses 118 = .ok (.iinc 7 1, 3) := by decide +kernel
theorem dX12_chooses_121 : decode cX12_chooses 121 = .ok (.goto (-100), 3) := by decide +kernel
theorem dX12_chooses_124 : decode cX12_chooses 124 = .ok (.iconst 0, 1) := by decide +kernel
theorem dX12_chooses_125 : decode cX12_chooses 125 = .ok (.istore 7, 2) := by decide +kernel
theorem dX12_chooses_127 : decode cX12_chooses 127 = .ok (.iload 7, 2) := by decide +kernel
theorem dX12_chooses_129 : decode cX12_chooses 129 = .ok (.bipush 10, 2) := by decide +kernel
theorem dX12_chooses_131 : decode cX12_chooses 131 = .ok (.if_icmp .ge 108, 3) := by decide +kernel
theorem dX12_chooses_134 : decode cX12_chooses 134 = .ok (.aload_n 0, 1) := by decide +kernel
theorem dX12_chooses_135 : decode cX12_chooses 135 = .ok (.iload_n 2, 1) := by decide +kernel
theorem dX12_chooses_136 : decode cX12_chooses 136 = .ok (.iload 7, 2) := by decide +kernel
theorem dX12_chooses_138 : decode cX12_chooses 138 = .ok (.invokevirtual 388, 3) := by decide +kernel
theorem dX12_chooses_141 : decode cX12_chooses 141 = .ok (.iconst (-1), 1) := by decide +kernel
theorem dX12_chooses_142 : decode cX12_chooses 142 = .ok (.if_icmp .eq 91, 3) := by decide +kernel
theorem dX12_chooses_145 : decode cX12_chooses 145 = .ok (.aload_n 0, 1) := by decide +kernel
theorem dX12_chooses_146 : decode cX12_chooses 146 = .ok (.iload_n 2, 1) := by decide +kernel
theorem dX12_chooses_147 : decode cX12_chooses 147 = .ok (.invokevirtual 437, 3) := by decide +kernel
theorem dX12_chooses_150 : decode cX12_chooses 150 = .ok (.aload_n 0, 1) := by decide +kernel
theorem dX12_chooses_151 : decode cX12_chooses 151 = .ok (.iconst 2, 1) := by decide +kernel
theorem dX12_chooses_152 : decode cX12_chooses 152 = .ok (.aload_n 0, 1) := by decide +kernel
theorem dX12_chooses_153 : decode cX12_chooses 153 = .ok (.iload_n 2, 1) := by decide +kernel
theorem dX12_chooses_154 : decode cX12_chooses 154 = .ok (.iload 7, 2) := by decide +kernel
theorem dX12_chooses_156 : decode cX12_chooses 156 = .ok (.invokevirtual 388, 3) := by decide +kernel
theorem dX12_chooses_159 : decode cX12_chooses 159 = .ok (.invokevirtual 378, 3) := by decide +kernel
theorem dX12_chooses_162 : decode cX12_chooses 162 = .ok (.istore 8, 2) := by decide +kernel
theorem dX12_chooses_164 : decode cX12_chooses 164 = .ok (.aload_n 0, 1) := by decide +kernel
theorem dX12_chooses_165 : decode cX12_chooses 165 = .ok (.iload_n 3, 1) := by decide +kernel
theorem dX12_chooses_166 : decode cX12_chooses 166 = .ok (.invokevirtual 437, 3) := by decide +kernel
theorem dX12_chooses_169 : decode cX12_chooses 169 = .ok (.aload_n 0, 1) := by decide +kernel
theorem dX12_chooses_170 : decode cX12_chooses 170 = .ok (.iconst 2, 1) := by decide +kernel
theorem dX12_chooses_171 : decode cX12_chooses 171 = .ok (.aload_n 0, 1) := by decide +kernel
theorem dX12_chooses_172 : decode cX12_chooses 172 = .ok (.iload_n 3, 1) := by decide +kernel
theorem dX12_chooses_173 : decode cX12_chooses 173 = .ok (.iload 7, 2) := by decide +kernel
theorem dX12_chooses_175 : decode cX12_chooses 175 = .ok (.invokevirtual 388, 3) := by decide +kernel
theorem dX12_chooses_178 : decode cX12_chooses 178 = .ok (.invokevirtual 378, 3) := by decide +kernel
theorem dX12_chooses_181 : decode cX12_chooses 181 = .ok (.istore 9, 2) := by decide +kernel
theorem dX12_chooses_183 : decode cX12_chooses 183 = .ok (.iload 8, 2) := by decide +kernel
theorem dX12_chooses_185 : decode cX12_chooses 185 = .ok (.iload 9, 2) := by decide +kernel
theorem dX12_chooses_187 : decode cX12_chooses 187 = .ok (.if_icmp .eq 10, 3) := by decide +kernel
theorem dX12_chooses_190 : decode cX12_chooses 190 = .ok (.sipush 200, 3) := by decide +kernel
theorem dX12_chooses_193 : decode cX12_chooses 193 = .ok (.iload 7, 2) := by decide +kernel
theorem dX12_chooses_195 : decode cX12_chooses 195 = .ok (.iadd, 1) := by decide +kernel
theorem dX12_chooses_196 : decode cX12_chooses 196 = .ok (.ireturn, 1) := by decide +kernel
theorem dX12_chooses_197 : decode cX12_chooses 197 = .ok (.aload_n 0, 1) := by decide +kernel
theorem dX12_chooses_198 : decode cX12_chooses 198 = .ok (.iload 5, 2) := by decide +kernel
theorem dX12_chooses_200 : decode cX12_chooses 200 = .ok (.iload 7, 2) := by decide +kernel
theorem dX12_chooses_202 : decode cX12_chooses 202 = .ok (.iload 8, 2) := by decide +kernel
theorem dX12_chooses_204 : decode cX12_chooses 204 = .ok (.aload_n 0, 1) := by decide +kernel
theorem dX12_chooses_205 : decode cX12_chooses 205 = .ok (.iload_n 2, 1) := by decide +kernel
theorem dX12_chooses_206 : decode cX12_chooses 206 = .ok (.iload 7, 2) := by decide +kernel
theorem dX12_chooses_208 : decode cX12_chooses 208 = .ok (.invokevirtual 410, 3) := by decide +kernel
theorem dX12_chooses_211 : decode cX12_chooses 211 = .ok (.ifCond .ne 13, 3) := by decide +kernel
theorem dX12_chooses_214 : decode cX12_chooses 214 = .ok (.aload_n 0, 1) := by decide +kernel
theorem dX12_chooses_215 : decode cX12_chooses 215 = .ok (.iload_n 3, 1) := by decide +kernel
theorem dX12_chooses_216 : decode cX12_chooses 216 = .ok (.iload 7, 2) := by decide +kernel
theorem dX12_chooses_218 : decode cX12_chooses 218 = .ok (.invokevirtual 410, 3) := by decide +kernel
theorem dX12_chooses_221 : decode cX12_chooses 221 = .ok (.ifCond .eq 7, 3) := by decide +kernel
theorem dX12_chooses_224 : decode cX12_chooses 224 = .ok (.iconst 2, 1) := by decide +kernel
theorem dX12_chooses_225 : decode cX12_chooses 225 = .ok (.goto 4, 3) := by decide +kernel
theorem dX12_chooses_228 : decode cX12_chooses 228 = .ok (.iconst 0, 1) := by decide +kernel
theorem dX12_chooses_229 : decode cX12_chooses 229 = .ok (.iconst 0, 1) := by decide +kernel
theorem dX12_chooses_230 : decode cX12_chooses 230 = .ok (.invokevirtual 394, 3) := by decide +kernel
theorem dX12_chooses_233 : decode cX12_chooses 233 = .ok (.iinc 7 1, 3) := by decide +kernel
theorem dX12_chooses_236 : decode cX12_chooses 236 = .ok (.goto (-109), 3) := by decide +kernel
theorem dX12_chooses_239 : decode cX12_chooses 239 = .ok (.iconst 0, 1) := by decide +kernel
theorem dX12_chooses_240 : decode cX12_chooses 240 = .ok (.ireturn, 1) := by decide +kernel
theorem dX12_setsStamps_0 : decode cX12_setsStamps 0 = .ok (.iconst 0, 1) := by decide +kernel
theorem dX12_setsStamps_1 : decode cX12_setsStamps 1 = .ok (.istore_n 2, 1) := by decide +kernel
theorem dX12_setsStamps_2 : decode cX12_setsStamps 2 = .ok (.iload_n 2, 1) := by decide +kernel
theorem dX12_setsStamps_3 : decode cX12_setsStamps 3 = .ok (.bipush 6, 2) := by decide +kernel
theorem dX12_setsStamps_5 : decode cX12_setsStamps 5 = .ok (.if_icmp .ge 35, 3) := by decide +kernel
theorem dX12_setsStamps_8 : decode cX12_setsStamps 8 = .ok (.aload_n 0, 1) := by decide +kernel
theorem dX12_setsStamps_9 : decode cX12_setsStamps 9 = .ok (.getfield 102, 3) := by decide +kernel
theorem dX12_setsStamps_12 : decode cX12_setsStamps 12 = .ok (.iload_n 2, 1) := by decide +kernel
theorem dX12_setsStamps_13 : decode cX12_setsStamps 13 = .ok (.aload_n 0, 1) := by decide +kernel
theorem dX12_setsStamps_14 : decode cX12_setsStamps 14 = .ok (.getfield 105, 3) := by decide +kernel
theorem dX12_setsStamps_17 : decode cX12_setsStamps 17 = .ok (.iload_n 2, 1) := by decide +kernel
theorem dX12_setsStamps_18 : decode cX12_setsStamps 18 = .ok (.iaload, 1) := by decide +kernel
theorem dX12_setsStamps_19 : decode cX12_setsStamps 19 = .ok (.iconst (-1), 1) := by decide +kernel
theorem dX12_setsStamps_20 : decode cX12_setsStamps 20 = .ok (.if_icmp .ne 7, 3) := by decide +kernel
theorem dX12_setsStamps_23 : decode cX12_setsStamps 23 = .ok (.iconst (-1), 1) := by decide +kernel
theorem dX12_setsStamps_24 : decode cX12_setsStamps 24 = .ok (.goto 9, 3) := by decide +kernel
theorem dX12_setsStamps_27 : decode cX12_setsStamps 27 = .ok (.aload_n 0, 1) := by decide +kernel
theorem dX12_setsStamps_28 : decode cX12_setsStamps 28 = .ok (.iload_n 1, 1) := by decide +kernel
theorem dX12_setsStamps_29 : decode cX12_setsStamps 29 = .ok (.iload_n 2, 1) := by decide +kernel
theorem dX12_setsStamps_30 : decode cX12_setsStamps 30 = .ok (.invokevirtual 413, 3) := by decide +kernel
theorem dX12_setsStamps_33 : decode cX12_setsStamps 33 = .ok (.iastore, 1) := by decide +kernel
theorem dX12_setsStamps_34 : decode cX12_setsStamps 34 = .ok (.iinc 2 1, 3) := by decide +kernel
theorem dX12_setsStamps_37 : decode cX12_setsStamps 37 = .ok (.goto (-35), 3) := by decide +kernel
theorem dX12_setsStamps_40 : decode cX12_setsStamps 40 = .ok (.return_, 1) := by decide +kernel
theorem dX12_versionOf_0 : decode cX12_versionOf 0 = .ok (.aload_n 0, 1) := by decide +kernel
theorem dX12_versionOf_1 : decode cX12_versionOf 1 = .ok (.getfield 61, 3) := by decide +kernel
theorem dX12_versionOf_4 : decode cX12_versionOf 4 = .ok (.iload_n 1, 1) := by decide +kernel
theorem dX12_versionOf_5 : decode cX12_versionOf 5 = .ok (.iaload, 1) := by decide +kernel
theorem dX12_versionOf_6 : decode cX12_versionOf 6 = .ok (.iconst (-1), 1) := by decide +kernel
theorem dX12_versionOf_7 : decode cX12_versionOf 7 = .ok (.if_icmp .ne 16, 3) := by decide +kernel
theorem dX12_versionOf_10 : decode cX12_versionOf 10 = .ok (.aload_n 0, 1) := by decide +kernel
theorem dX12_versionOf_11 : decode cX12_versionOf 11 = .ok (.aload_n 0, 1) := by decide +kernel
theorem dX12_versionOf_12 : decode cX12_versionOf 12 = .ok (.getfield 58, 3) := by decide +kernel
theorem dX12_versionOf_15 : decode cX12_versionOf 15 = .ok (.iload_n 1, 1) := by decide +kernel
theorem dX12_versionOf_16 : decode cX12_versionOf 16 = .ok (.iaload, 1) := by decide +kernel
theorem dX12_versionOf_17 : decode cX12_versionOf 17 = .ok (.invokevirtual 323, 3) := by decide +kernel
theorem dX12_versionOf_20 : decode cX12_versionOf 20 = .ok (.goto 18, 3) := by decide +kernel
theorem dX12_versionOf_23 : decode cX12_versionOf 23 = .ok (.aload_n 0, 1) := by decide +kernel
theorem dX12_versionOf_24 : decode cX12_versionOf 24 = .ok (.getfield 58, 3) := by decide +kernel
theorem dX12_versionOf_27 : decode cX12_versionOf 27 = .ok (.iload_n 1, 1) := by decide +kernel
theorem dX12_versionOf_28 : decode cX12_versionOf 28 = .ok (.iaload, 1) := by decide +kernel
theorem dX12_versionOf_29 : decode cX12_versionOf 29 = .ok (.aload_n 0, 1) := by decide +kernel
theorem dX12_versionOf_30 : decode cX12_versionOf 30 = .ok (.getfield 61, 3) := by decide +kernel
theorem dX12_versionOf_33 : decode cX12_versionOf 33 = .ok (.iload_n 1, 1) := by decide +kernel
theorem dX12_versionOf_34 : decode cX12_versionOf 34 = .ok (.iaload, 1) := by decide +kernel
theorem dX12_versionOf_35 : decode cX12_versionOf 35 = .ok (.invokestatic 316, 3) := by decide +kernel
theorem dX12_versionOf_38 : decode cX12_versionOf 38 = .ok (.ireturn, 1) := by decide +kernel
theorem dX12_identOf_0 : decode cX12_identOf 0 = .ok (.aload_n 0, 1) := by decide +kernel
theorem dX12_identOf_1 : decode cX12_identOf 1 = .ok (.getfield 55, 3) := by decide +kernel
theorem dX12_identOf_4 : decode cX12_identOf 4 = .ok (.iload_n 1, 1) := by decide +kernel
theorem dX12_identOf_5 : decode cX12_identOf 5 = .ok (.iaload, 1) := by decide +kernel
theorem dX12_identOf_6 : decode cX12_identOf 6 = .ok (.istore_n 2, 1) := by decide +kernel
theorem dX12_identOf_7 : decode cX12_identOf 7 = .ok (.iload_n 2, 1) := by decide +kernel
theorem dX12_identOf_8 : decode cX12_identOf 8 = .ok (.ifCond .ne 16, 3) := by decide +kernel
theorem dX12_identOf_11 : decode cX12_identOf 11 = .ok (.aload_n 0, 1) := by decide +kernel
theorem dX12_identOf_12 : decode cX12_identOf 12 = .ok (.iconst 1, 1) := by decide +kernel
theorem dX12_identOf_13 : decode cX12_identOf 13 = .ok (.aload_n 0, 1) := by decide +kernel
theorem dX12_identOf_14 : decode cX12_identOf 14 = .ok (.iload_n 1, 1) := by decide +kernel
theorem dX12_identOf_15 : decode cX12_identOf 15 = .ok (.invokevirtual 440, 3) := by decide +kernel
theorem dX12_identOf_18 : decode cX12_identOf 18 = .ok (.iconst 0, 1) := by decide +kernel
theorem dX12_identOf_19 : decode cX12_identOf 19 = .ok (.iconst 0, 1) := by decide +kernel
theorem dX12_identOf_20 : decode cX12_identOf 20 = .ok (.invokevirtual 363, 3) := by decide +kernel
theorem dX12_identOf_23 : decode cX12_identOf 23 = .ok (.ireturn, 1) := by decide +kernel
theorem dX12_identOf_24 : decode cX12_identOf 24 = .ok (.iload_n 2, 1) := by decide +kernel
theorem dX12_identOf_25 : decode cX12_identOf 25 = .ok (.iconst 4, 1) := by decide +kernel
theorem dX12_identOf_26 : decode cX12_identOf 26 = .ok (.if_icmp .eq 12, 3) := by decide +kernel
theorem dX12_identOf_29 : decode cX12_identOf 29 = .ok (.aload_n 0, 1) := by decide +kernel
theorem dX12_identOf_30 : decode cX12_identOf 30 = .ok (.getfield 70, 3) := by decide +kernel
theorem dX12_identOf_33 : decode cX12_identOf 33 = .ok (.iload_n 1, 1) := by decide +kernel
theorem dX12_identOf_34 : decode cX12_identOf 34 = .ok (.baload, 1) := by decide +kernel
theorem dX12_identOf_35 : decode cX12_identOf 35 = .ok (.ifCond .eq 12, 3) := by decide +kernel
theorem dX12_identOf_38 : decode cX12_identOf 38 = .ok (.aload_n 0, 1) := by decide +kernel
theorem dX12_identOf_39 : decode cX12_identOf 39 = .ok (.iconst 0, 1) := by decide +kernel
theorem dX12_identOf_40 : decode cX12_identOf 40 = .ok (.iload_n 1, 1) := by decide +kernel
theorem dX12_identOf_41 : decode cX12_identOf 41 = .ok (.iconst 0, 1) := by decide +kernel
theorem dX12_identOf_42 : decode cX12_identOf 42 = .ok (.iconst 0, 1) := by decide +kernel
theorem dX12_identOf_43 : decode cX12_identOf 43 = .ok (.invokevirtual 363, 3) := by decide +kernel
theorem dX12_identOf_46 : decode cX12_identOf 46 = .ok (.ireturn, 1) := by decide +kernel
theorem dX12_identOf_47 : decode cX12_identOf 47 = .ok (.aload_n 0, 1) := by decide +kernel
theorem dX12_identOf_48 : decode cX12_identOf 48 = .ok (.getfield 142, 3) := by decide +kernel
theorem dX12_identOf_51 : decode cX12_identOf 51 = .ok (.aload_n 0, 1) := by decide +kernel
theorem dX12_identOf_52 : decode cX12_identOf 52 = .ok (.getfield 58, 3) := by decide +kernel
theorem dX12_identOf_55 : decode cX12_identOf 55 = .ok (.iload_n 1, 1) := by decide +kernel
theorem dX12_identOf_56 : decode cX12_identOf 56 = .ok (.iaload, 1) := by decide +kernel
theorem dX12_identOf_57 : decode cX12_identOf 57 = .ok (.iaload, 1) := by decide +kernel
theorem dX12_identOf_58 : decode cX12_identOf 58 = .ok (.istore_n 3, 1) := by decide +kernel
theorem dX12_identOf_59 : decode cX12_identOf 59 = .ok (.iload_n 2, 1) := by decide +kernel
theorem dX12_identOf_60 : decode cX12_identOf 60 = .ok (.iconst 5, 1) := by decide +kernel
theorem dX12_identOf_61 : decode cX12_identOf 61 = .ok (.if_icmp .lt 35, 3) := by decide +kernel
theorem dX12_identOf_64 : decode cX12_identOf 64 = .ok (.aload_n 0, 1) := by decide +kernel
theorem dX12_identOf_65 : decode cX12_identOf 65 = .ok (.iconst 2, 1) := by decide +kernel
theorem dX12_identOf_66 : decode cX12_identOf 66 = .ok (.iload_n 2, 1) := by decide +kernel
theorem dX12_identOf_67 : decode cX12_identOf 67 = .ok (.iadd, 1) := by decide +kernel
theorem dX12_identOf_68 : decode cX12_identOf 68 = .ok (.iload_n 3, 1) := by decide +kernel
theorem dX12_identOf_69 : decode cX12_identOf 69 = .ok (.aload_n 0, 1) := by decide +kernel
theorem dX12_identOf_70 : decode cX12_identOf 70 = .ok (.getfield 61, 3) := by decide +kernel
theorem dX12_identOf_73 : decode cX12_identOf 73 = .ok (.iload_n 1, 1) := by decide +kernel
theorem dX12_identOf_74 : decode cX12_identOf 74 = .ok (.iaload, 1) := by decide +kernel
theorem dX12_identOf_75 : decode cX12_identOf 75 = .ok (.iload_n 2, 1) := by decide +kernel
theorem dX12_identOf_76 : decode cX12_identOf 76 = .ok (.iconst 5, 1) := by decide +kernel
theorem dX12_identOf_77 : decode cX12_identOf 77 = .ok (.if_icmp .ne 12, 3) := by decide +kernel
theorem dX12_identOf_80 : decode cX12_identOf 80 = .ok (.aload_n 0, 1) := by decide +kernel
theorem dX12_identOf_81 : decode cX12_identOf 81 = .ok (.getfield 64, 3) := by decide +kernel
theorem dX12_identOf_84 : decode cX12_identOf 84 = .ok (.iload_n 1, 1) := by decide +kernel
theorem dX12_identOf_85 : decode cX12_identOf 85 = .ok (.iaload, 1) := by decide +kernel
theorem dX12_identOf_86 : decode cX12_identOf 86 = .ok (.goto 4, 3) := by decide +kernel
theorem dX12_identOf_89 : decode cX12_identOf 89 = .ok (.iconst 0, 1) := by decide +kernel
theorem dX12_identOf_90 : decode cX12_identOf 90 = .ok (.invokevirtual 363, 3) := by decide +kernel
theorem dX12_identOf_93 : decode cX12_identOf 93 = .ok (.goto 23, 3) := by decide +kernel
theorem dX12_identOf_96 : decode cX12_identOf 96 = .ok (.aload_n 0, 1) := by decide +kernel
theorem dX12_identOf_97 : decode cX12_identOf 97 = .ok (.iconst 2, 1) := by decide +kernel
theorem dX12_identOf_98 : decode cX12_identOf 98 = .ok (.iload_n 2, 1) := by decide +kernel
theorem dX12_identOf_99 : decode cX12_identOf 99 = .ok (.iadd, 1) := by decide +kernel
theorem dX12_identOf_100 : decode cX12_identOf 100 = .ok (.iload_n 3, 1) := by decide +kernel
theorem dX12_identOf_101 : decode cX12_identOf 101 = .ok (.aload_n 0, 1) := by decide +kernel
theorem dX12_identOf_102 : decode cX12_identOf 102 = .ok (.getfield 142, 3) := by decide +kernel
theorem dX12_identOf_105 : decode cX12_identOf 105 = .ok (.aload_n 0, 1) := by decide +kernel
theorem dX12_identOf_106 : decode cX12_identOf 106 = .ok (.getfield 61, 3) := by decide +kernel
theorem dX12_identOf_109 : decode cX12_identOf 109 = .ok (.iload_n 1, 1) := by decide +kernel
theorem dX12_identOf_110 : decode cX12_identOf 110 = .ok (.iaload, 1) := by decide +kernel
theorem dX12_identOf_111 : decode cX12_identOf 111 = .ok (.iaload, 1) := by decide +kernel
theorem dX12_identOf_112 : decode cX12_identOf 112 = .ok (.iconst 0, 1) := by decide +kernel
theorem dX12_identOf_113 : decode cX12_identOf 113 = .ok (.invokevirtual 363, 3) := by decide +kernel
theorem dX12_identOf_116 : decode cX12_identOf 116 = .ok (.ireturn, 1) := by decide +kernel
theorem dX12_partsOfNode_0 : decode cX12_partsOfNode 0 = .ok (.aload_n 0, 1) := by decide +kernel
theorem dX12_partsOfNode_1 : decode cX12_partsOfNode 1 = .ok (.getfield 55, 3) := by decide +kernel
theorem dX12_partsOfNode_4 : decode cX12_partsOfNode 4 = .ok (.iload_n 1, 1) := by decide +kernel
theorem dX12_partsOfNode_5 : decode cX12_partsOfNode 5 = .ok (.iaload, 1) := by decide +kernel
theorem dX12_partsOfNode_6 : decode cX12_partsOfNode 6 = .ok (.ifCond .ne 7, 3) := by decide +kernel
theorem dX12_partsOfNode_9 : decode cX12_partsOfNode 9 = .ok (.iconst 0, 1) := by decide +kernel
theorem dX12_partsOfNode_10 : decode cX12_partsOfNode 10 = .ok (.goto 32, 3) := by decide +kernel
theorem dX12_partsOfNode_13 : decode cX12_partsOfNode 13 = .ok (.aload_n 0, 1) := by decide +kernel
theorem dX12_partsOfNode_14 : decode cX12_partsOfNode 14 = .ok (.getfield 55, 3) := by decide +kernel
theorem dX12_partsOfNode_17 : decode cX12_partsOfNode 17 = .ok (.iload_n 1, 1) := by decide +kernel
theorem dX12_partsOfNode_18 : decode cX12_partsOfNode 18 = .ok (.iaload, 1) := by decide +kernel
theorem dX12_partsOfNode_19 : decode cX12_partsOfNode 19 = .ok (.iconst 5, 1) := by decide +kernel
theorem dX12_partsOfNode_20 : decode cX12_partsOfNode 20 = .ok (.if_icmp .lt 7, 3) := by decide +kernel
theorem dX12_partsOfNode_23 : decode cX12_partsOfNode 23 = .ok (.iconst 1, 1) := by decide +kernel
theorem dX12_partsOfNode_24 : decode cX12_partsOfNode 24 = .ok (.goto 18, 3) := by decide +kernel
theorem dX12_partsOfNode_27 : decode cX12_partsOfNode 27 = .ok (.aload_n 0, 1) := by decide +kernel
theorem dX12_partsOfNode_28 : decode cX12_partsOfNode 28 = .ok (.getfield 55, 3) := by decide +kernel
theorem dX12_partsOfNode_31 : decode cX12_partsOfNode 31 = .ok (.iload_n 1, 1) := by decide +kernel
theorem dX12_partsOfNode_32 : decode cX12_partsOfNode 32 = .ok (.iaload, 1) := by decide +kernel
theorem dX12_partsOfNode_33 : decode cX12_partsOfNode 33 = .ok (.iconst 4, 1) := by decide +kernel
theorem dX12_partsOfNode_34 : decode cX12_partsOfNode 34 = .ok (.if_icmp .ne 7, 3) := by decide +kernel
theorem dX12_partsOfNode_37 : decode cX12_partsOfNode 37 = .ok (.iconst 3, 1) := by decide +kernel
theorem dX12_partsOfNode_38 : decode cX12_partsOfNode 38 = .ok (.goto 4, 3) := by decide +kernel
theorem dX12_partsOfNode_41 : decode cX12_partsOfNode 41 = .ok (.iconst 2, 1) := by decide +kernel
theorem dX12_partsOfNode_42 : decode cX12_partsOfNode 42 = .ok (.ireturn, 1) := by decide +kernel
theorem dX12_partOf_0 : decode cX12_partOf 0 = .ok (.iload_n 2, 1) := by decide +kernel
theorem dX12_partOf_1 : decode cX12_partOf 1 = .ok (.ifCond .ne 12, 3) := by decide +kernel
theorem dX12_partOf_4 : decode cX12_partOf 4 = .ok (.aload_n 0, 1) := by decide +kernel
theorem dX12_partOf_5 : decode cX12_partOf 5 = .ok (.getfield 58, 3) := by decide +kernel
theorem dX12_partOf_8 : decode cX12_partOf 8 = .ok (.iload_n 1, 1) := by decide +kernel
theorem dX12_partOf_9 : decode cX12_partOf 9 = .ok (.iaload, 1) := by decide +kernel
theorem dX12_partOf_10 : decode cX12_partOf 10 = .ok (.goto 23, 3) := by decide +kernel
theorem dX12_partOf_13 : decode cX12_partOf 13 = .ok (.iload_n 2, 1) := by decide +kernel
theorem dX12_partOf_14 : decode cX12_partOf 14 = .ok (.iconst 1, 1) := by decide +kernel
theorem dX12_partOf_15 : decode cX12_partOf 15 = .ok (.if_icmp .ne 12, 3) := by decide +kernel
theorem dX12_partOf_18 : decode cX12_partOf 18 = .ok (.aload_n 0, 1) := by decide +kernel
theorem dX12_partOf_19 : decode cX12_partOf 19 = .ok (.getfield 61, 3) := by decide +kernel
theorem dX12_partOf_22 : decode cX12_partOf 22 = .ok (.iload_n 1, 1) := by decide +kernel
theorem dX12_partOf_23 : decode cX12_partOf 23 = .ok (.iaload, 1) := by decide +kernel
theorem dX12_partOf_24 : decode cX12_partOf 24 = .ok (.goto 9, 3) := by decide +kernel
theorem dX12_partOf_27 : decode cX12_partOf 27 = .ok (.aload_n 0, 1) := by decide +kernel
theorem dX12_partOf_28 : decode cX12_partOf 28 = .ok (.getfield 64, 3) := by decide +kernel
theorem dX12_partOf_31 : decode cX12_partOf 31 = .ok (.iload_n 1, 1) := by decide +kernel
theorem dX12_partOf_32 : decode cX12_partOf 32 = .ok (.iaload, 1) := by decide +kernel
theorem dX12_partOf_33 : decode cX12_partOf 33 = .ok (.ireturn, 1) := by decide +kernel
theorem dX12_renames_0 : decode cX12_renames 0 = .ok (.aload_n 0, 1) := by decide +kernel
theorem dX12_renames_1 : decode cX12_renames 1 = .ok (.getfield 61, 3) := by decide +kernel
theorem dX12_renames_4 : decode cX12_renames 4 = .ok (.iload_n 1, 1) := by decide +kernel
theorem dX12_renames_5 : decode cX12_renames 5 = .ok (.iaload, 1) := by decide +kernel
theorem dX12_renames_6 : decode cX12_renames 6 = .ok (.istore_n 3, 1) := by decide +kernel
theorem dX12_renames_7 : decode cX12_renames 7 = .ok (.aload_n 0, 1) := by decide +kernel
theorem dX12_renames_8 : decode cX12_renames 8 = .ok (.getfield 64, 3) := by decide +kernel
theorem dX12_renames_11 : decode cX12_renames 11 = .ok (.iload_n 1, 1) := by decide +kernel
theorem dX12_renames_12 : decode cX12_renames 12 = .ok (.iaload, 1) := by decide +kernel
theorem dX12_renames_13 : decode cX12_renames 13 = .ok (.istore 4, 2) := by decide +kernel
theorem dX12_renames_15 : decode cX12_renames 15 = .ok (.aload_n 0, 1) := by decide +kernel
theorem dX12_renames_16 : decode cX12_renames 16 = .ok (.getfield 55, 3) := by decide +kernel
theorem dX12_renames_19 : decode cX12_renames 19 = .ok (.iload_n 1, 1) := by decide +kernel
theorem dX12_renames_20 : decode cX12_renames 20 = .ok (.iaload, 1) := by decide +kernel
theorem dX12_renames_21 : decode cX12_renames 21 = .ok (.iconst 5, 1) := by decide +kernel
theorem dX12_renames_22 : decode cX12_renames 22 = .ok (.if_icmp .ne 7, 3) := by decide +kernel
theorem dX12_renames_25 : decode cX12_renames 25 = .ok (.iconst 1, 1) := by decide +kernel
theorem dX12_renames_26 : decode cX12_renames 26 = .ok (.goto 4, 3) := by decide +kernel
theorem dX12_renames_29 : decode cX12_renames 29 = .ok (.iconst 0, 1) := by decide +kernel
theorem dX12_renames_30 : decode cX12_renames 30 = .ok (.istore 5, 2) := by decide +kernel
theorem dX12_renames_32 : decode cX12_renames 32 = .ok (.aload_n 0, 1) := by decide +kernel
theorem dX12_renames_33 : decode cX12_renames 33 = .ok (.iload_n 2, 1) := by decide +kernel
theorem dX12_renames_34 : decode cX12_renames 34 = .ok (.iload_n 3, 1) := by decide +kernel
theorem dX12_renames_35 : decode cX12_renames 35 = .ok (.invokevirtual 388, 3) := by decide +kernel
theorem dX12_renames_38 : decode cX12_renames 38 = .ok (.iconst (-1), 1) := by decide +kernel
theorem dX12_renames_39 : decode cX12_renames 39 = .ok (.if_icmp .ne 9, 3) := by decide +kernel
theorem dX12_renames_42 : decode cX12_renames 42 = .ok (.sipush 500, 3) := by decide +kernel
theorem dX12_renames_45 : decode cX12_renames 45 = .ok (.iload_n 3, 1) := by decide +kernel
theorem dX12_renames_46 : decode cX12_renames 46 = .ok (.iadd, 1) := by decide +kernel
theorem dX12_renames_47 : decode cX12_renames 47 = .ok (.ireturn, 1) := by decide +kernel
theorem dX12_renames_48 : decode cX12_renames 48 = .ok (.iload 5, 2) := by decide +kernel
theorem dX12_renames_50 : decode cX12_renames 50 = .ok (.ifCond .eq 21, 3) := by decide +kernel
theorem dX12_renames_53 : decode cX12_renames 53 = .ok (.aload_n 0, 1) := by decide +kernel
theorem dX12_renames_54 : decode cX12_renames 54 = .ok (.iload_n 2, 1) := by decide +kernel
theorem dX12_renames_55 : decode cX12_renames 55 = .ok (.iload 4, 2) := by decide +kernel
theorem dX12_renames_57 : decode cX12_renames 57 = .ok (.invokevirtual 388, 3) := by decide +kernel
theorem dX12_renames_60 : decode cX12_renames 60 = .ok (.iconst (-1), 1) := by decide +kernel
theorem dX12_renames_61 : decode cX12_renames 61 = .ok (.if_icmp .eq 10, 3) := by decide +kernel
theorem dX12_renames_64 : decode cX12_renames 64 = .ok (.sipush 400, 3) := by decide +kernel
theorem dX12_renames_67 : decode cX12_renames 67 = .ok (.iload 4, 2) := by decide +kernel
theorem dX12_renames_69 : decode cX12_renames 69 = .ok (.iadd, 1) := by decide +kernel
theorem dX12_renames_70 : decode cX12_renames 70 = .ok (.ireturn, 1) := by decide +kernel
theorem dX12_renames_71 : decode cX12_renames 71 = .ok (.iload 5, 2) := by decide +kernel
theorem dX12_renames_73 : decode cX12_renames 73 = .ok (.ifCond .ne 18, 3) := by decide +kernel
theorem dX12_renames_76 : decode cX12_renames 76 = .ok (.aload_n 0, 1) := by decide +kernel
theorem dX12_renames_77 : decode cX12_renames 77 = .ok (.iload_n 2, 1) := by decide +kernel
theorem dX12_renames_78 : decode cX12_renames 78 = .ok (.iload_n 3, 1) := by decide +kernel
theorem dX12_renames_79 : decode cX12_renames 79 = .ok (.invokevirtual 398, 3) := by decide +kernel
theorem dX12_renames_82 : decode cX12_renames 82 = .ok (.ifCond .eq 9, 3) := by decide +kernel
theorem dX12_renames_85 : decode cX12_renames 85 = .ok (.sipush 800, 3) := by decide +kernel
theorem dX12_renames_88 : decode cX12_renames 88 = .ok (.iload_n 3, 1) := by decide +kernel
theorem dX12_renames_89 : decode cX12_renames 89 = .ok (.iadd, 1) := by decide +kernel
theorem dX12_renames_90 : decode cX12_renames 90 = .ok (.ireturn, 1) := by decide +kernel
theorem dX12_renames_91 : decode cX12_renames 91 = .ok (.aload_n 0, 1) := by decide +kernel
theorem dX12_renames_92 : decode cX12_renames 92 = .ok (.iload_n 2, 1) := by decide +kernel
theorem dX12_renames_93 : decode cX12_renames 93 = .ok (.iload_n 1, 1) := by decide +kernel
theorem dX12_renames_94 : decode cX12_renames 94 = .ok (.invokevirtual 424, 3) := by decide +kernel
theorem dX12_renames_97 : decode cX12_renames 97 = .ok (.iload 5, 2) := by decide +kernel
theorem dX12_renames_99 : decode cX12_renames 99 = .ok (.ifCond .eq 12, 3) := by decide +kernel
theorem dX12_renames_102 : decode cX12_renames 102 = .ok (.aload_n 0, 1) := by decide +kernel
theorem dX12_renames_103 : decode cX12_renames 103 = .ok (.iload_n 2, 1) := by decide +kernel
theorem dX12_renames_104 : decode cX12_renames 104 = .ok (.iload_n 3, 1) := by decide +kernel
theorem dX12_renames_105 : decode cX12_renames 105 = .ok (.iload_n 1, 1) := by decide +kernel
theorem dX12_renames_106 : decode cX12_renames 106 = .ok (.iload 4, 2) := by decide +kernel
theorem dX12_renames_108 : decode cX12_renames 108 = .ok (.invokevirtual 381, 3) := by decide +kernel
theorem dX12_renames_111 : decode cX12_renames 111 = .ok (.aload_n 0, 1) := by decide +kernel
theorem dX12_renames_112 : decode cX12_renames 112 = .ok (.iload_n 1, 1) := by decide +kernel
theorem dX12_renames_113 : decode cX12_renames 113 = .ok (.iload_n 3, 1) := by decide +kernel
theorem dX12_renames_114 : decode cX12_renames 114 = .ok (.iconst (-1), 1) := by decide +kernel
theorem dX12_renames_115 : decode cX12_renames 115 = .ok (.iconst 0, 1) := by decide +kernel
theorem dX12_renames_116 : decode cX12_renames 116 = .ok (.iconst 0, 1) := by decide +kernel
theorem dX12_renames_117 : decode cX12_renames 117 = .ok (.invokevirtual 394, 3) := by decide +kernel
theorem dX12_renames_120 : decode cX12_renames 120 = .ok (.iconst 0, 1) := by decide +kernel
theorem dX12_renames_121 : decode cX12_renames 121 = .ok (.ireturn, 1) := by decide +kernel
theorem dX12_faceOf_0 : decode cX12_faceOf 0 = .ok (.aload_n 0, 1) := by decide +kernel
theorem dX12_faceOf_1 : decode cX12_faceOf 1 = .ok (.iload_n 1, 1) := by decide +kernel
theorem dX12_faceOf_2 : decode cX12_faceOf 2 = .ok (.invokevirtual 428, 3) := by decide +kernel
theorem dX12_faceOf_5 : decode cX12_faceOf 5 = .ok (.aload_n 0, 1) := by decide +kernel
theorem dX12_faceOf_6 : decode cX12_faceOf 6 = .ok (.getfield 142, 3) := by decide +kernel
theorem dX12_faceOf_9 : decode cX12_faceOf 9 = .ok (.iload_n 1, 1) := by decide +kernel
