theorem dL_cell_0 : decode cL_cell 0 = .ok (.iload_n 1, 1) := by decide +kernel
theorem dL_cell_1 : decode cL_cell 1 = .ok (.aload_n 0, 1) := by decide +kernel
theorem dL_cell_2 : decode cL_cell 2 = .ok (.arraylength, 1) := by decide +kernel
theorem dL_cell_3 : decode cL_cell 3 = .ok (.if_icmp .ge 9, 3) := by decide +kernel
theorem dL_cell_6 : decode cL_cell 6 = .ok (.aload_n 0, 1) := by decide +kernel
theorem dL_cell_7 : decode cL_cell 7 = .ok (.iload_n 1, 1) := by decide +kernel
theorem dL_cell_8 : decode cL_cell 8 = .ok (.iaload, 1) := by decide +kernel
theorem dL_cell_9 : decode cL_cell 9 = .ok (.goto 9, 3) := by decide +kernel
theorem dL_cell_12 : decode cL_cell 12 = .ok (.ldc 7, 2) := by decide +kernel
theorem dL_cell_14 : decode cL_cell 14 = .ok (.iload_n 1, 1) := by decide +kernel
theorem dL_cell_15 : decode cL_cell 15 = .ok (.iconst 3, 1) := by decide +kernel
theorem dL_cell_16 : decode cL_cell 16 = .ok (.iadd, 1) := by decide +kernel
theorem dL_cell_17 : decode cL_cell 17 = .ok (.imul, 1) := by decide +kernel
theorem dL_cell_18 : decode cL_cell 18 = .ok (.ireturn, 1) := by decide +kernel
theorem dL_up_0 : decode cL_up 0 = .ok (.iload_n 0, 1) := by decide +kernel
theorem dL_up_1 : decode cL_up 1 = .ok (.ldc 8, 2) := by decide +kernel
theorem dL_up_3 : decode cL_up 3 = .ok (.iand, 1) := by decide +kernel
theorem dL_up_4 : decode cL_up 4 = .ok (.iload_n 1, 1) := by decide +kernel
theorem dL_up_5 : decode cL_up 5 = .ok (.irem, 1) := by decide +kernel
theorem dL_up_6 : decode cL_up 6 = .ok (.ireturn, 1) := by decide +kernel
theorem dL_fails_0 : decode cL_fails 0 = .ok (.aload_n 0, 1) := by decide +kernel
theorem dL_fails_1 : decode cL_fails 1 = .ok (.invokevirtual 9, 3) := by decide +kernel
theorem dL_fails_4 : decode cL_fails 4 = .ok (.lstore_n 2, 1) := by decide +kernel
theorem dL_fails_5 : decode cL_fails 5 = .ok (.aload_n 0, 1) := by decide +kernel
theorem dL_fails_6 : decode cL_fails 6 = .ok (.sipush 10001, 3) := by decide +kernel
theorem dL_fails_9 : decode cL_fails 9 = .ok (.iconst 1, 1) := by decide +kernel
theorem dL_fails_10 : decode cL_fails 10 = .ok (.invokevirtual 15, 3) := by decide +kernel
theorem dL_fails_13 : decode cL_fails 13 = .ok (.sipush (-20001), 3) := by decide +kernel
theorem dL_fails_16 : decode cL_fails 16 = .ok (.if_icmp .ne 203, 3) := by decide +kernel
theorem dL_fails_19 : decode cL_fails 19 = .ok (.aload_n 0, 1) := by decide +kernel
theorem dL_fails_20 : decode cL_fails 20 = .ok (.iconst 0, 1) := by decide +kernel
theorem dL_fails_21 : decode cL_fails 21 = .ok (.iconst 0, 1) := by decide +kernel
theorem dL_fails_22 : decode cL_fails 22 = .ok (.invokevirtual 15, 3) := by decide +kernel
theorem dL_fails_25 : decode cL_fails 25 = .ok (.sipush (-20001), 3) := by decide +kernel
theorem dL_fails_28 : decode cL_fails 28 = .ok (.if_icmp .ne 191, 3) := by decide +kernel
theorem dL_fails_31 : decode cL_fails 31 = .ok (.aload_n 0, 1) := by decide +kernel
theorem dL_fails_32 : decode cL_fails 32 = .ok (.iconst 0, 1) := by decide +kernel
theorem dL_fails_33 : decode cL_fails 33 = .ok (.iconst 5, 1) := by decide +kernel
theorem dL_fails_34 : decode cL_fails 34 = .ok (.invokevirtual 15, 3) := by decide +kernel
theorem dL_fails_37 : decode cL_fails 37 = .ok (.sipush (-20001), 3) := by decide +kernel
theorem dL_fails_40 : decode cL_fails 40 = .ok (.if_icmp .ne 179, 3) := by decide +kernel
theorem dL_fails_43 : decode cL_fails 43 = .ok (.aload_n 0, 1) := by decide +kernel
theorem dL_fails_44 : decode cL_fails 44 = .ok (.iload_n 1, 1) := by decide +kernel
theorem dL_fails_45 : decode cL_fails 45 = .ok (.iconst 0, 1) := by decide +kernel
theorem dL_fails_46 : decode cL_fails 46 = .ok (.iconst 0, 1) := by decide +kernel
theorem dL_fails_47 : decode cL_fails 47 = .ok (.invokevirtual 21, 3) := by decide +kernel
theorem dL_fails_50 : decode cL_fails 50 = .ok (.sipush (-20001), 3) := by decide +kernel
theorem dL_fails_53 : decode cL_fails 53 = .ok (.if_icmp .ne 166, 3) := by decide +kernel
theorem dL_fails_56 : decode cL_fails 56 = .ok (.aload_n 0, 1) := by decide +kernel
theorem dL_fails_57 : decode cL_fails 57 = .ok (.iconst 0, 1) := by decide +kernel
theorem dL_fails_58 : decode cL_fails 58 = .ok (.bipush 7, 2) := by decide +kernel
theorem dL_fails_60 : decode cL_fails 60 = .ok (.iconst 0, 1) := by decide +kernel
theorem dL_fails_61 : decode cL_fails 61 = .ok (.invokevirtual 21, 3) := by decide +kernel
theorem dL_fails_64 : decode cL_fails 64 = .ok (.sipush (-20001), 3) := by decide +kernel
theorem dL_fails_67 : decode cL_fails 67 = .ok (.if_icmp .ne 152, 3) := by decide +kernel
theorem dL_fails_70 : decode cL_fails 70 = .ok (.aload_n 0, 1) := by decide +kernel
theorem dL_fails_71 : decode cL_fails 71 = .ok (.iconst 0, 1) := by decide +kernel
theorem dL_fails_72 : decode cL_fails 72 = .ok (.iconst 0, 1) := by decide +kernel
theorem dL_fails_73 : decode cL_fails 73 = .ok (.iconst 2, 1) := by decide +kernel
theorem dL_fails_74 : decode cL_fails 74 = .ok (.invokevirtual 21, 3) := by decide +kernel
theorem dL_fails_77 : decode cL_fails 77 = .ok (.sipush (-20001), 3) := by decide +kernel
theorem dL_fails_80 : decode cL_fails 80 = .ok (.if_icmp .ne 139, 3) := by decide +kernel
theorem dL_fails_83 : decode cL_fails 83 = .ok (.aload_n 0, 1) := by decide +kernel
theorem dL_fails_84 : decode cL_fails 84 = .ok (.iconst 0, 1) := by decide +kernel
theorem dL_fails_85 : decode cL_fails 85 = .ok (.iconst 2, 1) := by decide +kernel
theorem dL_fails_86 : decode cL_fails 86 = .ok (.sipush 1001, 3) := by decide +kernel
theorem dL_fails_89 : decode cL_fails 89 = .ok (.invokevirtual 21, 3) := by decide +kernel
theorem dL_fails_92 : decode cL_fails 92 = .ok (.sipush (-20001), 3) := by decide +kernel
theorem dL_fails_95 : decode cL_fails 95 = .ok (.if_icmp .ne 124, 3) := by decide +kernel
theorem dL_fails_98 : decode cL_fails 98 = .ok (.aload_n 0, 1) := by decide +kernel
theorem dL_fails_99 : decode cL_fails 99 = .ok (.iconst 0, 1) := by decide +kernel
theorem dL_fails_100 : decode cL_fails 100 = .ok (.iconst 3, 1) := by decide +kernel
theorem dL_fails_101 : decode cL_fails 101 = .ok (.bipush 21, 2) := by decide +kernel
theorem dL_fails_103 : decode cL_fails 103 = .ok (.invokevirtual 21, 3) := by decide +kernel
theorem dL_fails_106 : decode cL_fails 106 = .ok (.sipush (-20001), 3) := by decide +kernel
theorem dL_fails_109 : decode cL_fails 109 = .ok (.if_icmp .ne 110, 3) := by decide +kernel
theorem dL_fails_112 : decode cL_fails 112 = .ok (.aload_n 0, 1) := by decide +kernel
theorem dL_fails_113 : decode cL_fails 113 = .ok (.iconst 0, 1) := by decide +kernel
theorem dL_fails_114 : decode cL_fails 114 = .ok (.iconst 5, 1) := by decide +kernel
theorem dL_fails_115 : decode cL_fails 115 = .ok (.iconst 5, 1) := by decide +kernel
theorem dL_fails_116 : decode cL_fails 116 = .ok (.invokevirtual 21, 3) := by decide +kernel
theorem dL_fails_119 : decode cL_fails 119 = .ok (.sipush (-20001), 3) := by decide +kernel
theorem dL_fails_122 : decode cL_fails 122 = .ok (.if_icmp .ne 97, 3) := by decide +kernel
theorem dL_fails_125 : decode cL_fails 125 = .ok (.aload_n 0, 1) := by decide +kernel
theorem dL_fails_126 : decode cL_fails 126 = .ok (.iconst 0, 1) := by decide +kernel
theorem dL_fails_127 : decode cL_fails 127 = .ok (.bipush 6, 2) := by decide +kernel
theorem dL_fails_129 : decode cL_fails 129 = .ok (.bipush 16, 2) := by decide +kernel
theorem dL_fails_131 : decode cL_fails 131 = .ok (.invokevirtual 21, 3) := by decide +kernel
theorem dL_fails_134 : decode cL_fails 134 = .ok (.sipush (-20001), 3) := by decide +kernel
theorem dL_fails_137 : decode cL_fails 137 = .ok (.if_icmp .ne 82, 3) := by decide +kernel
theorem dL_fails_140 : decode cL_fails 140 = .ok (.aload_n 0, 1) := by decide +kernel
theorem dL_fails_141 : decode cL_fails 141 = .ok (.iload_n 1, 1) := by decide +kernel
theorem dL_fails_142 : decode cL_fails 142 = .ok (.iconst 0, 1) := by decide +kernel
theorem dL_fails_143 : decode cL_fails 143 = .ok (.invokevirtual 25, 3) := by decide +kernel
theorem dL_fails_146 : decode cL_fails 146 = .ok (.sipush (-20001), 3) := by decide +kernel
theorem dL_fails_149 : decode cL_fails 149 = .ok (.if_icmp .ne 70, 3) := by decide +kernel
theorem dL_fails_152 : decode cL_fails 152 = .ok (.aload_n 0, 1) := by decide +kernel
theorem dL_fails_153 : decode cL_fails 153 = .ok (.iconst 0, 1) := by decide +kernel
theorem dL_fails_154 : decode cL_fails 154 = .ok (.iload_n 1, 1) := by decide +kernel
theorem dL_fails_155 : decode cL_fails 155 = .ok (.invokevirtual 25, 3) := by decide +kernel
theorem dL_fails_158 : decode cL_fails 158 = .ok (.sipush (-20001), 3) := by decide +kernel
theorem dL_fails_161 : decode cL_fails 161 = .ok (.if_icmp .ne 58, 3) := by decide +kernel
theorem dL_fails_164 : decode cL_fails 164 = .ok (.aload_n 0, 1) := by decide +kernel
theorem dL_fails_165 : decode cL_fails 165 = .ok (.iconst 0, 1) := by decide +kernel
theorem dL_fails_166 : decode cL_fails 166 = .ok (.bipush (-2), 2) := by decide +kernel
theorem dL_fails_168 : decode cL_fails 168 = .ok (.invokevirtual 25, 3) := by decide +kernel
theorem dL_fails_171 : decode cL_fails 171 = .ok (.sipush (-20001), 3) := by decide +kernel
theorem dL_fails_174 : decode cL_fails 174 = .ok (.if_icmp .ne 45, 3) := by decide +kernel
theorem dL_fails_177 : decode cL_fails 177 = .ok (.aload_n 0, 1) := by decide +kernel
theorem dL_fails_178 : decode cL_fails 178 = .ok (.iconst 0, 1) := by decide +kernel
theorem dL_fails_179 : decode cL_fails 179 = .ok (.iconst 0, 1) := by decide +kernel
theorem dL_fails_180 : decode cL_fails 180 = .ok (.invokevirtual 25, 3) := by decide +kernel
theorem dL_fails_183 : decode cL_fails 183 = .ok (.sipush (-20002), 3) := by decide +kernel
theorem dL_fails_186 : decode cL_fails 186 = .ok (.if_icmp .ne 33, 3) := by decide +kernel
theorem dL_fails_189 : decode cL_fails 189 = .ok (.aload_n 0, 1) := by decide +kernel
theorem dL_fails_190 : decode cL_fails 190 = .ok (.iload_n 1, 1) := by decide +kernel
theorem dL_fails_191 : decode cL_fails 191 = .ok (.iconst 0, 1) := by decide +kernel
theorem dL_fails_192 : decode cL_fails 192 = .ok (.invokevirtual 28, 3) := by decide +kernel
theorem dL_fails_195 : decode cL_fails 195 = .ok (.sipush (-20001), 3) := by decide +kernel
theorem dL_fails_198 : decode cL_fails 198 = .ok (.if_icmp .ne 21, 3) := by decide +kernel
theorem dL_fails_201 : decode cL_fails 201 = .ok (.aload_n 0, 1) := by decide +kernel
theorem dL_fails_202 : decode cL_fails 202 = .ok (.iconst 0, 1) := by decide +kernel
theorem dL_fails_203 : decode cL_fails 203 = .ok (.sipush (-10001), 3) := by decide +kernel
theorem dL_fails_206 : decode cL_fails 206 = .ok (.invokevirtual 28, 3) := by decide +kernel
theorem dL_fails_209 : decode cL_fails 209 = .ok (.sipush (-20001), 3) := by decide +kernel
theorem dL_fails_212 : decode cL_fails 212 = .ok (.if_icmp .ne 7, 3) := by decide +kernel
theorem dL_fails_215 : decode cL_fails 215 = .ok (.iconst 1, 1) := by decide +kernel
theorem dL_fails_216 : decode cL_fails 216 = .ok (.goto 4, 3) := by decide +kernel
theorem dL_fails_219 : decode cL_fails 219 = .ok (.iconst 0, 1) := by decide +kernel
theorem dL_fails_220 : decode cL_fails 220 = .ok (.istore 4, 2) := by decide +kernel
theorem dL_fails_222 : decode cL_fails 222 = .ok (.iload 4, 2) := by decide +kernel
theorem dL_fails_224 : decode cL_fails 224 = .ok (.ifCond .eq 178, 3) := by decide +kernel
theorem dL_fails_227 : decode cL_fails 227 = .ok (.aload_n 0, 1) := by decide +kernel
theorem dL_fails_228 : decode cL_fails 228 = .ok (.iload_n 1, 1) := by decide +kernel
theorem dL_fails_229 : decode cL_fails 229 = .ok (.iconst 0, 1) := by decide +kernel
theorem dL_fails_230 : decode cL_fails 230 = .ok (.invokevirtual 31, 3) := by decide +kernel
theorem dL_fails_233 : decode cL_fails 233 = .ok (.sipush (-20001), 3) := by decide +kernel
theorem dL_fails_236 : decode cL_fails 236 = .ok (.if_icmp .ne 166, 3) := by decide +kernel
theorem dL_fails_239 : decode cL_fails 239 = .ok (.aload_n 0, 1) := by decide +kernel
theorem dL_fails_240 : decode cL_fails 240 = .ok (.iconst 0, 1) := by decide +kernel
theorem dL_fails_241 : decode cL_fails 241 = .ok (.bipush 16, 2) := by decide +kernel
theorem dL_fails_243 : decode cL_fails 243 = .ok (.invokevirtual 31, 3) := by decide +kernel
theorem dL_fails_246 : decode cL_fails 246 = .ok (.sipush (-20001), 3) := by decide +kernel
theorem dL_fails_249 : decode cL_fails 249 = .ok (.if_icmp .ne 153, 3) := by decide +kernel
theorem dL_fails_252 : decode cL_fails 252 = .ok (.aload_n 0, 1) := by decide +kernel
theorem dL_fails_253 : decode cL_fails 253 = .ok (.iconst 4, 1) := by decide +kernel
theorem dL_fails_254 : decode cL_fails 254 = .ok (.invokevirtual 34, 3) := by decide +kernel
theorem dL_fails_257 : decode cL_fails 257 = .ok (.sipush (-20001), 3) := by decide +kernel
theorem dL_fails_260 : decode cL_fails 260 = .ok (.if_icmp .ne 142, 3) := by decide +kernel
theorem dL_fails_263 : decode cL_fails 263 = .ok (.aload_n 0, 1) := by decide +kernel
theorem dL_fails_264 : decode cL_fails 264 = .ok (.iconst 0, 1) := by decide +kernel
theorem dL_fails_265 : decode cL_fails 265 = .ok (.iconst 1, 1) := by decide +kernel
theorem dL_fails_266 : decode cL_fails 266 = .ok (.iconst 1, 1) := by decide +kernel
theorem dL_fails_267 : decode cL_fails 267 = .ok (.invokevirtual 38, 3) := by decide +kernel
theorem dL_fails_270 : decode cL_fails 270 = .ok (.sipush (-20001), 3) := by decide +kernel
theorem dL_fails_273 : decode cL_fails 273 = .ok (.if_icmp .ne 129, 3) := by decide +kernel
theorem dL_fails_276 : decode cL_fails 276 = .ok (.aload_n 0, 1) := by decide +kernel
theorem dL_fails_277 : decode cL_fails 277 = .ok (.iconst 1, 1) := by decide +kernel
theorem dL_fails_278 : decode cL_fails 278 = .ok (.bipush 51, 2) := by decide +kernel
theorem dL_fails_280 : decode cL_fails 280 = .ok (.iconst 1, 1) := by decide +kernel
theorem dL_fails_281 : decode cL_fails 281 = .ok (.invokevirtual 38, 3) := by decide +kernel
theorem dL_fails_284 : decode cL_fails 284 = .ok (.sipush (-20001), 3) := by decide +kernel
theorem dL_fails_287 : decode cL_fails 287 = .ok (.if_icmp .ne 115, 3) := by decide +kernel
theorem dL_fails_290 : decode cL_fails 290 = .ok (.aload_n 0, 1) := by decide +kernel
theorem dL_fails_291 : decode cL_fails 291 = .ok (.iconst 1, 1) := by decide +kernel
theorem dL_fails_292 : decode cL_fails 292 = .ok (.iconst 5, 1) := by decide +kernel
theorem dL_fails_293 : decode cL_fails 293 = .ok (.bipush 6, 2) := by decide +kernel
theorem dL_fails_295 : decode cL_fails 295 = .ok (.invokevirtual 38, 3) := by decide +kernel
theorem dL_fails_298 : decode cL_fails 298 = .ok (.sipush (-20001), 3) := by decide +kernel
theorem dL_fails_301 : decode cL_fails 301 = .ok (.if_icmp .ne 101, 3) := by decide +kernel
theorem dL_fails_304 : decode cL_fails 304 = .ok (.aload_n 0, 1) := by decide +kernel
theorem dL_fails_305 : decode cL_fails 305 = .ok (.iconst 0, 1) := by decide +kernel
theorem dL_fails_306 : decode cL_fails 306 = .ok (.invokevirtual 41, 3) := by decide +kernel
theorem dL_fails_309 : decode cL_fails 309 = .ok (.sipush (-20001), 3) := by decide +kernel
theorem dL_fails_312 : decode cL_fails 312 = .ok (.if_icmp .ne 90, 3) := by decide +kernel
theorem dL_fails_315 : decode cL_fails 315 = .ok (.aload_n 0, 1) := by decide +kernel
theorem dL_fails_316 : decode cL_fails 316 = .ok (.bipush 101, 2) := by decide +kernel
theorem dL_fails_318 : decode cL_fails 318 = .ok (.invokevirtual 41, 3) := by decide +kernel
theorem dL_fails_321 : decode cL_fails 321 = .ok (.sipush (-20001), 3) := by decide +kernel
theorem dL_fails_324 : decode cL_fails 324 = .ok (.if_icmp .ne 78, 3) := by decide +kernel
theorem dL_fails_327 : decode cL_fails 327 = .ok (.aload_n 0, 1) := by decide +kernel
theorem dL_fails_328 : decode cL_fails 328 = .ok (.iconst 5, 1) := by decide +kernel
theorem dL_fails_329 : decode cL_fails 329 = .ok (.invokevirtual 44, 3) := by decide +kernel
theorem dL_fails_332 : decode cL_fails 332 = .ok (.sipush (-20001), 3) := by decide +kernel
theorem dL_fails_335 : decode cL_fails 335 = .ok (.if_icmp .ne 67, 3) := by decide +kernel
theorem dL_fails_338 : decode cL_fails 338 = .ok (.aload_n 0, 1) := by decide +kernel
theorem dL_fails_339 : decode cL_fails 339 = .ok (.iload_n 1, 1) := by decide +kernel
theorem dL_fails_340 : decode cL_fails 340 = .ok (.invokevirtual 47, 3) := by decide +kernel
theorem dL_fails_343 : decode cL_fails 343 = .ok (.sipush (-20001), 3) := by decide +kernel
theorem dL_fails_346 : decode cL_fails 346 = .ok (.if_icmp .ne 56, 3) := by decide +kernel
theorem dL_fails_349 : decode cL_fails 349 = .ok (.aload_n 0, 1) := by decide +kernel
theorem dL_fails_350 : decode cL_fails 350 = .ok (.iload_n 1, 1) := by decide +kernel
theorem dL_fails_351 : decode cL_fails 351 = .ok (.iconst 1, 1) := by decide +kernel
theorem dL_fails_352 : decode cL_fails 352 = .ok (.invokevirtual 50, 3) := by decide +kernel
theorem dL_fails_355 : decode cL_fails 355 = .ok (.sipush (-20001), 3) := by decide +kernel
theorem dL_fails_358 : decode cL_fails 358 = .ok (.if_icmp .ne 44, 3) := by decide +kernel
theorem dL_fails_361 : decode cL_fails 361 = .ok (.aload_n 0, 1) := by decide +kernel
theorem dL_fails_362 : decode cL_fails 362 = .ok (.iconst 0, 1) := by decide +kernel
theorem dL_fails_363 : decode cL_fails 363 = .ok (.iconst 0, 1) := by decide +kernel
theorem dL_fails_364 : decode cL_fails 364 = .ok (.invokevirtual 50, 3) := by decide +kernel
theorem dL_fails_367 : decode cL_fails 367 = .ok (.sipush (-20001), 3) := by decide +kernel
theorem dL_fails_370 : decode cL_fails 370 = .ok (.if_icmp .ne 32, 3) := by decide +kernel
theorem dL_fails_373 : decode cL_fails 373 = .ok (.aload_n 0, 1) := by decide +kernel
theorem dL_fails_374 : decode cL_fails 374 = .ok (.iconst 0, 1) := by decide +kernel
theorem dL_fails_375 : decode cL_fails 375 = .ok (.sipush 1001, 3) := by decide +kernel
theorem dL_fails_378 : decode cL_fails 378 = .ok (.invokevirtual 50, 3) := by decide +kernel
theorem dL_fails_381 : decode cL_fails 381 = .ok (.sipush (-20001), 3) := by decide +kernel
theorem dL_fails_384 : decode cL_fails 384 = .ok (.if_icmp .ne 18, 3) := by decide +kernel
theorem dL_fails_387 : decode cL_fails 387 = .ok (.aload_n 0, 1) := by decide +kernel
theorem dL_fails_388 : decode cL_fails 388 = .ok (.iconst (-1), 1) := by decide +kernel
theorem dL_fails_389 : decode cL_fails 389 = .ok (.invokevirtual 53, 3) := by decide +kernel
theorem dL_fails_392 : decode cL_fails 392 = .ok (.sipush (-20001), 3) := by decide +kernel
theorem dL_fails_395 : decode cL_fails 395 = .ok (.if_icmp .ne 7, 3) := by decide +kernel
theorem dL_fails_398 : decode cL_fails 398 = .ok (.iconst 1, 1) := by decide +kernel
theorem dL_fails_399 : decode cL_fails 399 = .ok (.goto 4, 3) := by decide +kernel
theorem dL_fails_402 : decode cL_fails 402 = .ok (.iconst 0, 1) := by decide +kernel
theorem dL_fails_403 : decode cL_fails 403 = .ok (.istore 4, 2) := by decide +kernel
theorem dL_fails_405 : decode cL_fails 405 = .ok (.iload 4, 2) := by decide +kernel
theorem dL_fails_407 : decode cL_fails 407 = .ok (.ifCond .eq 145, 3) := by decide +kernel
theorem dL_fails_410 : decode cL_fails 410 = .ok (.aload_n 0, 1) := by decide +kernel
theorem dL_fails_411 : decode cL_fails 411 = .ok (.iconst (-1), 1) := by decide +kernel
theorem dL_fails_412 : decode cL_fails 412 = .ok (.invokevirtual 56, 3) := by decide +kernel
theorem dL_fails_415 : decode cL_fails 415 = .ok (.sipush (-20001), 3) := by decide +kernel
theorem dL_fails_418 : decode cL_fails 418 = .ok (.if_icmp .ne 134, 3) := by decide +kernel
theorem dL_fails_421 : decode cL_fails 421 = .ok (.aload_n 0, 1) := by decide +kernel
theorem dL_fails_422 : decode cL_fails 422 = .ok (.bipush 16, 2) := by decide +kernel
theorem dL_fails_424 : decode cL_fails 424 = .ok (.invokevirtual 56, 3) := by decide +kernel
theorem dL_fails_427 : decode cL_fails 427 = .ok (.sipush (-20009), 3) := by decide +kernel
theorem dL_fails_430 : decode cL_fails 430 = .ok (.if_icmp .ne 122, 3) := by decide +kernel
theorem dL_fails_433 : decode cL_fails 433 = .ok (.aload_n 0, 1) := by decide +kernel
theorem dL_fails_434 : decode cL_fails 434 = .ok (.bipush 8, 2) := by decide +kernel
theorem dL_fails_436 : decode cL_fails 436 = .ok (.invokevirtual 59, 3) := by decide +kernel
theorem dL_fails_439 : decode cL_fails 439 = .ok (.sipush (-20001), 3) := by decide +kernel
theorem dL_fails_442 : decode cL_fails 442 = .ok (.if_icmp .ne 110, 3) := by decide +kernel
theorem dL_fails_445 : decode cL_fails 445 = .ok (.aload_n 0, 1) := by decide +kernel
theorem dL_fails_446 : decode cL_fails 446 = .ok (.iconst (-1), 1) := by decide +kernel
theorem dL_fails_447 : decode cL_fails 447 = .ok (.iconst 0, 1) := by decide +kernel
theorem dL_fails_448 : decode cL_fails 448 = .ok (.invokevirtual 62, 3) := by decide +kernel
theorem dL_fails_451 : decode cL_fails 451 = .ok (.sipush (-20001), 3) := by decide +kernel
theorem dL_fails_454 : decode cL_fails 454 = .ok (.if_icmp .ne 98, 3) := by decide +kernel
theorem dL_fails_457 : decode cL_fails 457 = .ok (.aload_n 0, 1) := by decide +kernel
theorem dL_fails_458 : decode cL_fails 458 = .ok (.iconst 0, 1) := by decide +kernel
theorem dL_fails_459 : decode cL_fails 459 = .ok (.iconst 3, 1) := by decide +kernel
theorem dL_fails_460 : decode cL_fails 460 = .ok (.invokevirtual 62, 3) := by decide +kernel
theorem dL_fails_463 : decode cL_fails 463 = .ok (.sipush (-20001), 3) := by decide +kernel
theorem dL_fails_466 : decode cL_fails 466 = .ok (.if_icmp .ne 86, 3) := by decide +kernel
theorem dL_fails_469 : decode cL_fails 469 = .ok (.aload_n 0, 1) := by decide +kernel
theorem dL_fails_470 : decode cL_fails 470 = .ok (.bipush 30, 2) := by decide +kernel
theorem dL_fails_472 : decode cL_fails 472 = .ok (.iconst 0, 1) := by decide +kernel
theorem dL_fails_473 : decode cL_fails 473 = .ok (.invokevirtual 62, 3) := by decide +kernel
theorem dL_fails_476 : decode cL_fails 476 = .ok (.sipush (-20009), 3) := by decide +kernel
theorem dL_fails_479 : decode cL_fails 479 = .ok (.if_icmp .ne 73, 3) := by decide +kernel
theorem dL_fails_482 : decode cL_fails 482 = .ok (.aload_n 0, 1) := by decide +kernel
theorem dL_fails_483 : decode cL_fails 483 = .ok (.aload_n 0, 1) := by decide +kernel
theorem dL_fails_484 : decode cL_fails 484 = .ok (.invokevirtual 65, 3) := by decide +kernel
theorem dL_fails_487 : decode cL_fails 487 = .ok (.iconst 0, 1) := by decide +kernel
theorem dL_fails_488 : decode cL_fails 488 = .ok (.invokevirtual 62, 3) := by decide +kernel
theorem dL_fails_491 : decode cL_fails 491 = .ok (.sipush (-20009), 3) := by decide +kernel
theorem dL_fails_494 : decode cL_fails 494 = .ok (.if_icmp .ne 58, 3) := by decide +kernel
theorem dL_fails_497 : decode cL_fails 497 = .ok (.aload_n 0, 1) := by decide +kernel
theorem dL_fails_498 : decode cL_fails 498 = .ok (.iload_n 1, 1) := by decide +kernel
theorem dL_fails_499 : decode cL_fails 499 = .ok (.iconst 0, 1) := by decide +kernel
theorem dL_fails_500 : decode cL_fails 500 = .ok (.invokevirtual 69, 3) := by decide +kernel
theorem dL_fails_503 : decode cL_fails 503 = .ok (.sipush (-20001), 3) := by decide +kernel
theorem dL_fails_506 : decode cL_fails 506 = .ok (.if_icmp .ne 46, 3) := by decide +kernel
theorem dL_fails_509 : decode cL_fails 509 = .ok (.aload_n 0, 1) := by decide +kernel
theorem dL_fails_510 : decode cL_fails 510 = .ok (.iconst 0, 1) := by decide +kernel
theorem dL_fails_511 : decode cL_fails 511 = .ok (.sipush 1001, 3) := by decide +kernel
theorem dL_fails_514 : decode cL_fails 514 = .ok (.invokevirtual 69, 3) := by decide +kernel
theorem dL_fails_517 : decode cL_fails 517 = .ok (.sipush (-20001), 3) := by decide +kernel
theorem dL_fails_520 : decode cL_fails 520 = .ok (.if_icmp .ne 32, 3) := by decide +kernel
theorem dL_fails_523 : decode cL_fails 523 = .ok (.aload_n 0, 1) := by decide +kernel
theorem dL_fails_524 : decode cL_fails 524 = .ok (.iconst 0, 1) := by decide +kernel
theorem dL_fails_525 : decode cL_fails 525 = .ok (.bipush 41, 2) := by decide +kernel
theorem dL_fails_527 : decode cL_fails 527 = .ok (.invokevirtual 72, 3) := by decide +kernel
theorem dL_fails_530 : decode cL_fails 530 = .ok (.sipush (-20001), 3) := by decide +kernel
theorem dL_fails_533 : decode cL_fails 533 = .ok (.if_icmp .ne 19, 3) := by decide +kernel
theorem dL_fails_536 : decode cL_fails 536 = .ok (.aload_n 0, 1) := by decide +kernel
theorem dL_fails_537 : decode cL_fails 537 = .ok (.bipush 31, 2) := by decide +kernel
theorem dL_fails_539 : decode cL_fails 539 = .ok (.invokevirtual 75, 3) := by decide +kernel
theorem dL_fails_542 : decode cL_fails 542 = .ok (.sipush (-20001), 3) := by decide +kernel
theorem dL_fails_545 : decode cL_fails 545 = .ok (.if_icmp .ne 7, 3) := by decide +kernel
theorem dL_fails_548 : decode cL_fails 548 = .ok (.iconst 1, 1) := by decide +kernel
theorem dL_fails_549 : decode cL_fails 549 = .ok (.goto 4, 3) := by decide +kernel
theorem dL_fails_552 : decode cL_fails 552 = .ok (.iconst 0, 1) := by decide +kernel
theorem dL_fails_553 : decode cL_fails 553 = .ok (.istore 4, 2) := by decide +kernel
theorem dL_fails_555 : decode cL_fails 555 = .ok (.iload 4, 2) := by decide +kernel
theorem dL_fails_557 : decode cL_fails 557 = .ok (.ifCond .eq 16, 3) := by decide +kernel
theorem dL_fails_560 : decode cL_fails 560 = .ok (.aload_n 0, 1) := by decide +kernel
theorem dL_fails_561 : decode cL_fails 561 = .ok (.invokevirtual 9, 3) := by decide +kernel
theorem dL_fails_564 : decode cL_fails 564 = .ok (.lload_n 2, 1) := by decide +kernel
theorem dL_fails_565 : decode cL_fails 565 = .ok (.lcmp, 1) := by decide +kernel
theorem dL_fails_566 : decode cL_fails 566 = .ok (.ifCond .ne 7, 3) := by decide +kernel
theorem dL_fails_569 : decode cL_fails 569 = .ok (.iconst 1, 1) := by decide +kernel
theorem dL_fails_570 : decode cL_fails 570 = .ok (.goto 4, 3) := by decide +kernel
theorem dL_fails_573 : decode cL_fails 573 = .ok (.iconst 0, 1) := by decide +kernel
theorem dL_fails_574 : decode cL_fails 574 = .ok (.ireturn, 1) := by decide +kernel
theorem dL_agrees_0 : decode cL_agrees 0 = .ok (.iconst 5, 1) := by decide +kernel
theorem dL_agrees_1 : decode cL_agrees 1 = .ok (.newarray .int, 2) := by decide +kernel
theorem dL_agrees_3 : decode cL_agrees 3 = .ok (.astore_n 2, 1) := by decide +kernel
theorem dL_agrees_4 : decode cL_agrees 4 = .ok (.iconst 0, 1) := by decide +kernel
theorem dL_agrees_5 : decode cL_agrees 5 = .ok (.istore_n 3, 1) := by decide +kernel
theorem dL_agrees_6 : decode cL_agrees 6 = .ok (.iconst 0, 1) := by decide +kernel
theorem dL_agrees_7 : decode cL_agrees 7 = .ok (.istore 4, 2) := by decide +kernel
theorem dL_agrees_9 : decode cL_agrees 9 = .ok (.iconst 0, 1) := by decide +kernel
theorem dL_agrees_10 : decode cL_agrees 10 = .ok (.istore 5, 2) := by decide +kernel
theorem dL_agrees_12 : decode cL_agrees 12 = .ok (.iconst 0, 1) := by decide +kernel
theorem dL_agrees_13 : decode cL_agrees 13 = .ok (.istore 6, 2) := by decide +kernel
theorem dL_agrees_15 : decode cL_agrees 15 = .ok (.aload_n 0, 1) := by decide +kernel
theorem dL_agrees_16 : decode cL_agrees 16 = .ok (.iconst 0, 1) := by decide +kernel
theorem dL_agrees_17 : decode cL_agrees 17 = .ok (.invokevirtual 44, 3) := by decide +kernel
theorem dL_agrees_20 : decode cL_agrees 20 = .ok (.istore 7, 2) := by decide +kernel
theorem dL_agrees_22 : decode cL_agrees 22 = .ok (.iconst 0, 1) := by decide +kernel
theorem dL_agrees_23 : decode cL_agrees 23 = .ok (.istore 8, 2) := by decide +kernel
theorem dL_agrees_25 : decode cL_agrees 25 = .ok (.iload 8, 2) := by decide +kernel
theorem dL_agrees_27 : decode cL_agrees 27 = .ok (.iload_n 1, 1) := by decide +kernel
theorem dL_agrees_28 : decode cL_agrees 28 = .ok (.if_icmp .ge 434, 3) := by decide +kernel
theorem dL_agrees_31 : decode cL_agrees 31 = .ok (.aload_n 0, 1) := by decide +kernel
theorem dL_agrees_32 : decode cL_agrees 32 = .ok (.iload 8, 2) := by decide +kernel
theorem dL_agrees_34 : decode cL_agrees 34 = .ok (.bipush 15, 2) := by decide +kernel
theorem dL_agrees_36 : decode cL_agrees 36 = .ok (.invokevirtual 31, 3) := by decide +kernel
theorem dL_agrees_39 : decode cL_agrees 39 = .ok (.istore 9, 2) := by decide +kernel
theorem dL_agrees_41 : decode cL_agrees 41 = .ok (.aload_n 0, 1) := by decide +kernel
theorem dL_agrees_42 : decode cL_agrees 42 = .ok (.iload 8, 2) := by decide +kernel
theorem dL_agrees_44 : decode cL_agrees 44 = .ok (.bipush 9, 2) := by decide +kernel
theorem dL_agrees_46 : decode cL_agrees 46 = .ok (.invokevirtual 31, 3) := by decide +kernel
theorem dL_agrees_49 : decode cL_agrees 49 = .ok (.iconst 1, 1) := by decide +kernel
theorem dL_agrees_50 : decode cL_agrees 50 = .ok (.if_icmp .ne 7, 3) := by decide +kernel
theorem dL_agrees_53 : decode cL_agrees 53 = .ok (.iconst 1, 1) := by decide +kernel
theorem dL_agrees_54 : decode cL_agrees 54 = .ok (.goto 4, 3) := by decide +kernel
theorem dL_agrees_57 : decode cL_agrees 57 = .ok (.iconst 0, 1) := by decide +kernel
theorem dL_agrees_58 : decode cL_agrees 58 = .ok (.istore 10, 2) := by decide +kernel
theorem dL_agrees_60 : decode cL_agrees 60 = .ok (.aload_n 0, 1) := by decide +kernel
theorem dL_agrees_61 : decode cL_agrees 61 = .ok (.iload 8, 2) := by decide +kernel
theorem dL_agrees_63 : decode cL_agrees 63 = .ok (.bipush 10, 2) := by decide +kernel
theorem dL_agrees_65 : decode cL_agrees 65 = .ok (.invokevirtual 31, 3) := by decide +kernel
theorem dL_agrees_68 : decode cL_agrees 68 = .ok (.iconst 1, 1) := by decide +kernel
theorem dL_agrees_69 : decode cL_agrees 69 = .ok (.if_icmp .ne 7, 3) := by decide +kernel
theorem dL_agrees_72 : decode cL_agrees 72 = .ok (.iconst 1, 1) := by decide +kernel
theorem dL_agrees_73 : decode cL_agrees 73 = .ok (.goto 4, 3) := by decide +kernel
theorem dL_agrees_76 : decode cL_agrees 76 = .ok (.iconst 0, 1) := by decide +kernel
theorem dL_agrees_77 : decode cL_agrees 77 = .ok (.istore 11, 2) := by decide +kernel
theorem dL_agrees_79 : decode cL_agrees 79 = .ok (.iload 10, 2) := by decide +kernel
theorem dL_agrees_81 : decode cL_agrees 81 = .ok (.ifCond .ne 8, 3) := by decide +kernel
theorem dL_agrees_84 : decode cL_agrees 84 = .ok (.iload 11, 2) := by decide +kernel
theorem dL_agrees_86 : decode cL_agrees 86 = .ok (.ifCond .ne 7, 3) := by decide +kernel
theorem dL_agrees_89 : decode cL_agrees 89 = .ok (.iconst 1, 1) := by decide +kernel
theorem dL_agrees_90 : decode cL_agrees 90 = .ok (.goto 4, 3) := by decide +kernel
theorem dL_agrees_93 : decode cL_agrees 93 = .ok (.iconst 0, 1) := by decide +kernel
theorem dL_agrees_94 : decode cL_agrees 94 = .ok (.istore 12, 2) := by decide +kernel
theorem dL_agrees_96 : decode cL_agrees 96 = .ok (.iload_n 3, 1) := by decide +kernel
theorem dL_agrees_97 : decode cL_agrees 97 = .ok (.iload 12, 2) := by decide +kernel
theorem dL_agrees_99 : decode cL_agrees 99 = .ok (.ifCond .eq 7, 3) := by decide +kernel
theorem dL_agrees_102 : decode cL_agrees 102 = .ok (.iconst 1, 1) := by decide +kernel
theorem dL_agrees_103 : decode cL_agrees 103 = .ok (.goto 4, 3) := by decide +kernel
theorem dL_agrees_106 : decode cL_agrees 106 = .ok (.iconst 0, 1) := by decide +kernel
theorem dL_agrees_107 : decode cL_agrees 107 = .ok (.iadd, 1) := by decide +kernel
theorem dL_agrees_108 : decode cL_agrees 108 = .ok (.istore_n 3, 1) := by decide +kernel
theorem dL_agrees_109 : decode cL_agrees 109 = .ok (.iload 4, 2) := by decide +kernel
theorem dL_agrees_111 : decode cL_agrees 111 = .ok (.aload_n 0, 1) := by decide +kernel
theorem dL_agrees_112 : decode cL_agrees 112 = .ok (.iload 8, 2) := by decide +kernel
theorem dL_agrees_114 : decode cL_agrees 114 = .ok (.bipush 13, 2) := by decide +kernel
theorem dL_agrees_116 : decode cL_agrees 116 = .ok (.invokevirtual 31, 3) := by decide +kernel
theorem dL_agrees_119 : decode cL_agrees 119 = .ok (.ifCond .le 7, 3) := by decide +kernel
theorem dL_agrees_122 : decode cL_agrees 122 = .ok (.iconst 1, 1) := by decide +kernel
theorem dL_agrees_123 : decode cL_agrees 123 = .ok (.goto 4, 3) := by decide +kernel
theorem dL_agrees_126 : decode cL_agrees 126 = .ok (.iconst 0, 1) := by decide +kernel
theorem dL_agrees_127 : decode cL_agrees 127 = .ok (.iadd, 1) := by decide +kernel
theorem dL_agrees_128 : decode cL_agrees 128 = .ok (.istore 4, 2) := by decide +kernel
theorem dL_agrees_130 : decode cL_agrees 130 = .ok (.iload 5, 2) := by decide +kernel
theorem dL_agrees_132 : decode cL_agrees 132 = .ok (.iload 11, 2) := by decide +kernel
theorem dL_agrees_134 : decode cL_agrees 134 = .ok (.ifCond .eq 7, 3) := by decide +kernel
theorem dL_agrees_137 : decode cL_agrees 137 = .ok (.iconst 0, 1) := by decide +kernel
theorem dL_agrees_138 : decode cL_agrees 138 = .ok (.goto 4, 3) := by decide +kernel
theorem dL_agrees_141 : decode cL_agrees 141 = .ok (.iconst 1, 1) := by decide +kernel
theorem dL_agrees_142 : decode cL_agrees 142 = .ok (.iadd, 1) := by decide +kernel
theorem dL_agrees_143 : decode cL_agrees 143 = .ok (.istore 5, 2) := by decide +kernel
theorem dL_agrees_145 : decode cL_agrees 145 = .ok (.iload 6, 2) := by decide +kernel
theorem dL_agrees_147 : decode cL_agrees 147 = .ok (.aload_n 0, 1) := by decide +kernel
theorem dL_agrees_148 : decode cL_agrees 148 = .ok (.iload 8, 2) := by decide +kernel
theorem dL_agrees_150 : decode cL_agrees 150 = .ok (.bipush 14, 2) := by decide +kernel
theorem dL_agrees_152 : decode cL_agrees 152 = .ok (.invokevirtual 31, 3) := by decide +kernel
theorem dL_agrees_155 : decode cL_agrees 155 = .ok (.iadd, 1) := by decide +kernel
theorem dL_agrees_156 : decode cL_agrees 156 = .ok (.istore 6, 2) := by decide +kernel
theorem dL_agrees_158 : decode cL_agrees 158 = .ok (.iload 12, 2) := by decide +kernel
theorem dL_agrees_160 : decode cL_agrees 160 = .ok (.ifCond .eq 17, 3) := by decide +kernel
theorem dL_agrees_163 : decode cL_agrees 163 = .ok (.iload 9, 2) := by decide +kernel
theorem dL_agrees_165 : decode cL_agrees 165 = .ok (.ifCond .lt 20, 3) := by decide +kernel
theorem dL_agrees_168 : decode cL_agrees 168 = .ok (.iload 9, 2) := by decide +kernel
theorem dL_agrees_170 : decode cL_agrees 170 = .ok (.iconst 4, 1) := by decide +kernel
theorem dL_agrees_171 : decode cL_agrees 171 = .ok (.if_icmp .le 16, 3) := by decide +kernel
theorem dL_agrees_174 : decode cL_agrees 174 = .ok (.goto 11, 3) := by decide +kernel
theorem dL_agrees_177 : decode cL_agrees 177 = .ok (.iload 9, 2) := by decide +kernel
theorem dL_agrees_179 : decode cL_agrees 179 = .ok (.sipush (-20009), 3) := by decide +kernel
theorem dL_agrees_182 : decode cL_agrees 182 = .ok (.if_icmp .eq 5, 3) := by decide +kernel
theorem dL_agrees_185 : decode cL_agrees 185 = .ok (.iconst 0, 1) := by decide +kernel
theorem dL_agrees_186 : decode cL_agrees 186 = .ok (.ireturn, 1) := by decide +kernel
theorem dL_agrees_187 : decode cL_agrees 187 = .ok (.aload_n 2, 1) := by decide +kernel
theorem dL_agrees_188 : decode cL_agrees 188 = .ok (.iload 9, 2) := by decide +kernel
theorem dL_agrees_190 : decode cL_agrees 190 = .ok (.ifCond .ge 7, 3) := by decide +kernel
theorem dL_agrees_193 : decode cL_agrees 193 = .ok (.iconst 0, 1) := by decide +kernel
theorem dL_agrees_194 : decode cL_agrees 194 = .ok (.goto 5, 3) := by decide +kernel
theorem dL_agrees_197 : decode cL_agrees 197 = .ok (.iload 9, 2) := by decide +kernel
theorem dL_agrees_199 : decode cL_agrees 199 = .ok (.dup2, 1) := by decide +kernel
theorem dL_agrees_200 : decode cL_agrees 200 = .ok (.iaload, 1) := by decide +kernel
theorem dL_agrees_201 : decode cL_agrees 201 = .ok (.iload 12, 2) := by decide +kernel
theorem dL_agrees_203 : decode cL_agrees 203 = .ok (.ifCond .eq 7, 3) := by decide +kernel
theorem dL_agrees_206 : decode cL_agrees 206 = .ok (.iconst 1, 1) := by decide +kernel
theorem dL_agrees_207 : decode cL_agrees 207 = .ok (.goto 4, 3) := by decide +kernel
theorem dL_agrees_210 : decode cL_agrees 210 = .ok (.iconst 0, 1) := by decide +kernel
theorem dL_agrees_211 : decode cL_agrees 211 = .ok (.iadd, 1) := by decide +kernel
theorem dL_agrees_212 : decode cL_agrees 212 = .ok (.iastore, 1) := by decide +kernel
theorem dL_agrees_213 : decode cL_agrees 213 = .ok (.aload_n 0, 1) := by decide +kernel
theorem dL_agrees_214 : decode cL_agrees 214 = .ok (.iload 8, 2) := by decide +kernel
theorem dL_agrees_216 : decode cL_agrees 216 = .ok (.iconst 5, 1) := by decide +kernel
theorem dL_agrees_217 : decode cL_agrees 217 = .ok (.invokevirtual 31, 3) := by decide +kernel
theorem dL_agrees_220 : decode cL_agrees 220 = .ok (.iconst 1, 1) := by decide +kernel
theorem dL_agrees_221 : decode cL_agrees 221 = .ok (.if_icmp .ne 19, 3) := by decide +kernel
theorem dL_agrees_224 : decode cL_agrees 224 = .ok (.iload 9, 2) := by decide +kernel
theorem dL_agrees_226 : decode cL_agrees 226 = .ok (.ifCond .gt 122, 3) := by decide +kernel
theorem dL_agrees_229 : decode cL_agrees 229 = .ok (.aload_n 0, 1) := by decide +kernel
theorem dL_agrees_230 : decode cL_agrees 230 = .ok (.iload 8, 2) := by decide +kernel
theorem dL_agrees_232 : decode cL_agrees 232 = .ok (.bipush 13, 2) := by decide +kernel
theorem dL_agrees_234 : decode cL_agrees 234 = .ok (.invokevirtual 31, 3) := by decide +kernel
theorem dL_agrees_237 : decode cL_agrees 237 = .ok (.ifCond .ne 111, 3) := by decide +kernel
theorem dL_agrees_240 : decode cL_agrees 240 = .ok (.aload_n 0, 1) := by decide +kernel
theorem dL_agrees_241 : decode cL_agrees 241 = .ok (.iload 8, 2) := by decide +kernel
theorem dL_agrees_243 : decode cL_agrees 243 = .ok (.bipush 13, 2) := by decide +kernel
theorem dL_agrees_245 : decode cL_agrees 245 = .ok (.invokevirtual 31, 3) := by decide +kernel
theorem dL_agrees_248 : decode cL_agrees 248 = .ok (.ifCond .eq 16, 3) := by decide +kernel
theorem dL_agrees_251 : decode cL_agrees 251 = .ok (.aload_n 0, 1) := by decide +kernel
theorem dL_agrees_252 : decode cL_agrees 252 = .ok (.iload 8, 2) := by decide +kernel
theorem dL_agrees_254 : decode cL_agrees 254 = .ok (.bipush 13, 2) := by decide +kernel
theorem dL_agrees_256 : decode cL_agrees 256 = .ok (.invokevirtual 31, 3) := by decide +kernel
theorem dL_agrees_259 : decode cL_agrees 259 = .ok (.iload 7, 2) := by decide +kernel
theorem dL_agrees_261 : decode cL_agrees 261 = .ok (.if_icmp .le 87, 3) := by decide +kernel
theorem dL_agrees_264 : decode cL_agrees 264 = .ok (.iload 9, 2) := by decide +kernel
theorem dL_agrees_266 : decode cL_agrees 266 = .ok (.iconst 1, 1) := by decide +kernel
theorem dL_agrees_267 : decode cL_agrees 267 = .ok (.if_icmp .ne 14, 3) := by decide +kernel
theorem dL_agrees_270 : decode cL_agrees 270 = .ok (.aload_n 0, 1) := by decide +kernel
theorem dL_agrees_271 : decode cL_agrees 271 = .ok (.iload 8, 2) := by decide +kernel
theorem dL_agrees_273 : decode cL_agrees 273 = .ok (.bipush 13, 2) := by decide +kernel
theorem dL_agrees_275 : decode cL_agrees 275 = .ok (.invokevirtual 31, 3) := by decide +kernel
theorem dL_agrees_278 : decode cL_agrees 278 = .ok (.ifCond .eq 70, 3) := by decide +kernel
theorem dL_agrees_281 : decode cL_agrees 281 = .ok (.iload 9, 2) := by decide +kernel
theorem dL_agrees_283 : decode cL_agrees 283 = .ok (.iconst 2, 1) := by decide +kernel
theorem dL_agrees_284 : decode cL_agrees 284 = .ok (.if_icmp .ne 22, 3) := by decide +kernel
theorem dL_agrees_287 : decode cL_agrees 287 = .ok (.aload_n 0, 1) := by decide +kernel
theorem dL_agrees_288 : decode cL_agrees 288 = .ok (.iload 8, 2) := by decide +kernel
theorem dL_agrees_290 : decode cL_agrees 290 = .ok (.bipush 6, 2) := by decide +kernel
theorem dL_agrees_292 : decode cL_agrees 292 = .ok (.invokevirtual 31, 3) := by decide +kernel
theorem dL_agrees_295 : decode cL_agrees 295 = .ok (.aload_n 0, 1) := by decide +kernel
theorem dL_agrees_296 : decode cL_agrees 296 = .ok (.iconst 1, 1) := by decide +kernel
theorem dL_agrees_297 : decode cL_agrees 297 = .ok (.invokevirtual 44, 3) := by decide +kernel
theorem dL_agrees_300 : decode cL_agrees 300 = .ok (.ishr, 1) := by decide +kernel
theorem dL_agrees_301 : decode cL_agrees 301 = .ok (.iconst 1, 1) := by decide +kernel
theorem dL_agrees_302 : decode cL_agrees 302 = .ok (.iand, 1) := by decide +kernel
theorem dL_agrees_303 : decode cL_agrees 303 = .ok (.ifCond .eq 45, 3) := by decide +kernel
theorem dL_agrees_306 : decode cL_agrees 306 = .ok (.iload 9, 2) := by decide +kernel
theorem dL_agrees_308 : decode cL_agrees 308 = .ok (.iconst 3, 1) := by decide +kernel
theorem dL_agrees_309 : decode cL_agrees 309 = .ok (.if_icmp .ne 14, 3) := by decide +kernel
theorem dL_agrees_312 : decode cL_agrees 312 = .ok (.aload_n 0, 1) := by decide +kernel
theorem dL_agrees_313 : decode cL_agrees 313 = .ok (.iload 8, 2) := by decide +kernel
theorem dL_agrees_315 : decode cL_agrees 315 = .ok (.bipush 8, 2) := by decide +kernel
theorem dL_agrees_317 : decode cL_agrees 317 = .ok (.invokevirtual 31, 3) := by decide +kernel
theorem dL_agrees_320 : decode cL_agrees 320 = .ok (.ifCond .lt 28, 3) := by decide +kernel
theorem dL_agrees_323 : decode cL_agrees 323 = .ok (.iload 9, 2) := by decide +kernel
theorem dL_agrees_325 : decode cL_agrees 325 = .ok (.iconst 4, 1) := by decide +kernel
theorem dL_agrees_326 : decode cL_agrees 326 = .ok (.if_icmp .ne 24, 3) := by decide +kernel
theorem dL_agrees_329 : decode cL_agrees 329 = .ok (.aload_n 0, 1) := by decide +kernel
theorem dL_agrees_330 : decode cL_agrees 330 = .ok (.iconst 2, 1) := by decide +kernel
theorem dL_agrees_331 : decode cL_agrees 331 = .ok (.invokevirtual 44, 3) := by decide +kernel
theorem dL_agrees_334 : decode cL_agrees 334 = .ok (.ifCond .eq 14, 3) := by decide +kernel
theorem dL_agrees_337 : decode cL_agrees 337 = .ok (.aload_n 0, 1) := by decide +kernel
theorem dL_agrees_338 : decode cL_agrees 338 = .ok (.iload 8, 2) := by decide +kernel
theorem dL_agrees_340 : decode cL_agrees 340 = .ok (.iconst 5, 1) := by decide +kernel
theorem dL_agrees_341 : decode cL_agrees 341 = .ok (.invokevirtual 31, 3) := by decide +kernel
theorem dL_agrees_344 : decode cL_agrees 344 = .ok (.iconst 3, 1) := by decide +kernel
theorem dL_agrees_345 : decode cL_agrees 345 = .ok (.if_icmp .ge 5, 3) := by decide +kernel
theorem dL_agrees_348 : decode cL_agrees 348 = .ok (.iconst 0, 1) := by decide +kernel
theorem dL_agrees_349 : decode cL_agrees 349 = .ok (.ireturn, 1) := by decide +kernel
theorem dL_agrees_350 : decode cL_agrees 350 = .ok (.aload_n 0, 1) := by decide +kernel
theorem dL_agrees_351 : decode cL_agrees 351 = .ok (.iload 8, 2) := by decide +kernel
theorem dL_agrees_353 : decode cL_agrees 353 = .ok (.bipush 11, 2) := by decide +kernel
theorem dL_agrees_355 : decode cL_agrees 355 = .ok (.invokevirtual 31, 3) := by decide +kernel
theorem dL_agrees_358 : decode cL_agrees 358 = .ok (.aload_n 0, 1) := by decide +kernel
theorem dL_agrees_359 : decode cL_agrees 359 = .ok (.iload 8, 2) := by decide +kernel
theorem dL_agrees_361 : decode cL_agrees 361 = .ok (.iload 10, 2) := by decide +kernel
theorem dL_agrees_363 : decode cL_agrees 363 = .ok (.ifCond .eq 7, 3) := by decide +kernel
theorem dL_agrees_366 : decode cL_agrees 366 = .ok (.iconst 4, 1) := by decide +kernel
theorem dL_agrees_367 : decode cL_agrees 367 = .ok (.goto 4, 3) := by decide +kernel
theorem dL_agrees_370 : decode cL_agrees 370 = .ok (.iconst 3, 1) := by decide +kernel
theorem dL_agrees_371 : decode cL_agrees 371 = .ok (.invokevirtual 31, 3) := by decide +kernel
theorem dL_agrees_374 : decode cL_agrees 374 = .ok (.if_icmp .le 16, 3) := by decide +kernel
theorem dL_agrees_377 : decode cL_agrees 377 = .ok (.aload_n 0, 1) := by decide +kernel
theorem dL_agrees_378 : decode cL_agrees 378 = .ok (.iload 8, 2) := by decide +kernel
theorem dL_agrees_380 : decode cL_agrees 380 = .ok (.bipush 11, 2) := by decide +kernel
theorem dL_agrees_382 : decode cL_agrees 382 = .ok (.invokevirtual 31, 3) := by decide +kernel
theorem dL_agrees_385 : decode cL_agrees 385 = .ok (.bipush 20, 2) := by decide +kernel
theorem dL_agrees_387 : decode cL_agrees 387 = .ok (.if_icmp .gt 67, 3) := by decide +kernel
theorem dL_agrees_390 : decode cL_agrees 390 = .ok (.aload_n 0, 1) := by decide +kernel
theorem dL_agrees_391 : decode cL_agrees 391 = .ok (.iload 8, 2) := by decide +kernel
theorem dL_agrees_393 : decode cL_agrees 393 = .ok (.bipush 12, 2) := by decide +kernel
theorem dL_agrees_395 : decode cL_agrees 395 = .ok (.invokevirtual 31, 3) := by decide +kernel
theorem dL_agrees_398 : decode cL_agrees 398 = .ok (.iload 7, 2) := by decide +kernel
theorem dL_agrees_400 : decode cL_agrees 400 = .ok (.if_icmp .gt 54, 3) := by decide +kernel
theorem dL_agrees_403 : decode cL_agrees 403 = .ok (.aload_n 0, 1) := by decide +kernel
theorem dL_agrees_404 : decode cL_agrees 404 = .ok (.iload 8, 2) := by decide +kernel
theorem dL_agrees_406 : decode cL_agrees 406 = .ok (.bipush 14, 2) := by decide +kernel
theorem dL_agrees_408 : decode cL_agrees 408 = .ok (.invokevirtual 31, 3) := by decide +kernel
theorem dL_agrees_411 : decode cL_agrees 411 = .ok (.ifCond .ne 7, 3) := by decide +kernel
theorem dL_agrees_414 : decode cL_agrees 414 = .ok (.iconst 1, 1) := by decide +kernel
theorem dL_agrees_415 : decode cL_agrees 415 = .ok (.goto 4, 3) := by decide +kernel
theorem dL_agrees_418 : decode cL_agrees 418 = .ok (.iconst 0, 1) := by decide +kernel
theorem dL_agrees_419 : decode cL_agrees 419 = .ok (.aload_n 0, 1) := by decide +kernel
theorem dL_agrees_420 : decode cL_agrees 420 = .ok (.iload 8, 2) := by decide +kernel
theorem dL_agrees_422 : decode cL_agrees 422 = .ok (.bipush 12, 2) := by decide +kernel
theorem dL_agrees_424 : decode cL_agrees 424 = .ok (.invokevirtual 31, 3) := by decide +kernel
theorem dL_agrees_427 : decode cL_agrees 427 = .ok (.ifCond .ne 7, 3) := by decide +kernel
theorem dL_agrees_430 : decode cL_agrees 430 = .ok (.iconst 1, 1) := by decide +kernel
theorem dL_agrees_431 : decode cL_agrees 431 = .ok (.goto 4, 3) := by decide +kernel
theorem dL_agrees_434 : decode cL_agrees 434 = .ok (.iconst 0, 1) := by decide +kernel
theorem dL_agrees_435 : decode cL_agrees 435 = .ok (.if_icmp .ne 19, 3) := by decide +kernel
theorem dL_agrees_438 : decode cL_agrees 438 = .ok (.aload_n 0, 1) := by decide +kernel
theorem dL_agrees_439 : decode cL_agrees 439 = .ok (.iload 8, 2) := by decide +kernel
theorem dL_agrees_441 : decode cL_agrees 441 = .ok (.bipush 14, 2) := by decide +kernel
theorem dL_agrees_443 : decode cL_agrees 443 = .ok (.invokevirtual 31, 3) := by decide +kernel
theorem dL_agrees_446 : decode cL_agrees 446 = .ok (.ifCond .ne 10, 3) := by decide +kernel
theorem dL_agrees_449 : decode cL_agrees 449 = .ok (.iload 12, 2) := by decide +kernel
theorem dL_agrees_451 : decode cL_agrees 451 = .ok (.ifCond .eq 5, 3) := by decide +kernel
theorem dL_agrees_454 : decode cL_agrees 454 = .ok (.iconst 0, 1) := by decide +kernel
theorem dL_agrees_455 : decode cL_agrees 455 = .ok (.ireturn, 1) := by decide +kernel
theorem dL_agrees_456 : decode cL_agrees 456 = .ok (.iinc 8 1, 3) := by decide +kernel
theorem dL_agrees_459 : decode cL_agrees 459 = .ok (.goto (-434), 3) := by decide +kernel
theorem dL_agrees_462 : decode cL_agrees 462 = .ok (.iconst 0, 1) := by decide +kernel
theorem dL_agrees_463 : decode cL_agrees 463 = .ok (.istore 8, 2) := by decide +kernel
theorem dL_agrees_465 : decode cL_agrees 465 = .ok (.iload 8, 2) := by decide +kernel
theorem dL_agrees_467 : decode cL_agrees 467 = .ok (.iconst 5, 1) := by decide +kernel
theorem dL_agrees_468 : decode cL_agrees 468 = .ok (.if_icmp .ge 26, 3) := by decide +kernel
theorem dL_agrees_471 : decode cL_agrees 471 = .ok (.aload_n 0, 1) := by decide +kernel
theorem dL_agrees_472 : decode cL_agrees 472 = .ok (.iconst 1, 1) := by decide +kernel
theorem dL_agrees_473 : decode cL_agrees 473 = .ok (.iload 8, 2) := by decide +kernel
theorem dL_agrees_475 : decode cL_agrees 475 = .ok (.iadd, 1) := by decide +kernel
theorem dL_agrees_476 : decode cL_agrees 476 = .ok (.invokevirtual 59, 3) := by decide +kernel
theorem dL_agrees_479 : decode cL_agrees 479 = .ok (.aload_n 2, 1) := by decide +kernel
theorem dL_agrees_480 : decode cL_agrees 480 = .ok (.iload 8, 2) := by decide +kernel
theorem dL_agrees_482 : decode cL_agrees 482 = .ok (.iaload, 1) := by decide +kernel
theorem dL_agrees_483 : decode cL_agrees 483 = .ok (.if_icmp .eq 5, 3) := by decide +kernel
theorem dL_agrees_486 : decode cL_agrees 486 = .ok (.iconst 0, 1) := by decide +kernel
theorem dL_agrees_487 : decode cL_agrees 487 = .ok (.ireturn, 1) := by decide +kernel
theorem dL_agrees_488 : decode cL_agrees 488 = .ok (.iinc 8 1, 3) := by decide +kernel
theorem dL_agrees_491 : decode cL_agrees 491 = .ok (.goto (-26), 3) := by decide +kernel
theorem dL_agrees_494 : decode cL_agrees 494 = .ok (.aload_n 0, 1) := by decide +kernel
theorem dL_agrees_495 : decode cL_agrees 495 = .ok (.iconst 0, 1) := by decide +kernel
theorem dL_agrees_496 : decode cL_agrees 496 = .ok (.invokevirtual 59, 3) := by decide +kernel
theorem dL_agrees_499 : decode cL_agrees 499 = .ok (.iload_n 3, 1) := by decide +kernel
theorem dL_agrees_500 : decode cL_agrees 500 = .ok (.if_icmp .ne 49, 3) := by decide +kernel
theorem dL_agrees_503 : decode cL_agrees 503 = .ok (.aload_n 0, 1) := by decide +kernel
theorem dL_agrees_504 : decode cL_agrees 504 = .ok (.bipush 6, 2) := by decide +kernel
theorem dL_agrees_506 : decode cL_agrees 506 = .ok (.invokevirtual 59, 3) := by decide +kernel
theorem dL_agrees_509 : decode cL_agrees 509 = .ok (.iload 4, 2) := by decide +kernel
theorem dL_agrees_511 : decode cL_agrees 511 = .ok (.if_icmp .ne 38, 3) := by decide +kernel
theorem dL_agrees_514 : decode cL_agrees 514 = .ok (.aload_n 0, 1) := by decide +kernel
theorem dL_agrees_515 : decode cL_agrees 515 = .ok (.bipush 7, 2) := by decide +kernel
theorem dL_agrees_517 : decode cL_agrees 517 = .ok (.invokevirtual 59, 3) := by decide +kernel
theorem dL_agrees_520 : decode cL_agrees 520 = .ok (.iload 5, 2) := by decide +kernel
theorem dL_agrees_522 : decode cL_agrees 522 = .ok (.if_icmp .ne 27, 3) := by decide +kernel
theorem dL_agrees_525 : decode cL_agrees 525 = .ok (.aload_n 0, 1) := by decide +kernel
theorem dL_agrees_526 : decode cL_agrees 526 = .ok (.iconst 4, 1) := by decide +kernel
theorem dL_agrees_527 : decode cL_agrees 527 = .ok (.invokevirtual 44, 3) := by decide +kernel
theorem dL_agrees_530 : decode cL_agrees 530 = .ok (.iload 6, 2) := by decide +kernel
theorem dL_agrees_532 : decode cL_agrees 532 = .ok (.if_icmp .ne 17, 3) := by decide +kernel
theorem dL_agrees_535 : decode cL_agrees 535 = .ok (.aload_n 0, 1) := by decide +kernel
theorem dL_agrees_536 : decode cL_agrees 536 = .ok (.aload_n 2, 1) := by decide +kernel
theorem dL_agrees_537 : decode cL_agrees 537 = .ok (.iconst 0, 1) := by decide +kernel
theorem dL_agrees_538 : decode cL_agrees 538 = .ok (.iaload, 1) := by decide +kernel
theorem dL_agrees_539 : decode cL_agrees 539 = .ok (.invokestatic 78, 3) := by decide +kernel
theorem dL_agrees_542 : decode cL_agrees 542 = .ok (.ifCond .eq 7, 3) := by decide +kernel
theorem dL_agrees_545 : decode cL_agrees 545 = .ok (.iconst 1, 1) := by decide +kernel
theorem dL_agrees_546 : decode cL_agrees 546 = .ok (.goto 4, 3) := by decide +kernel
theorem dL_agrees_549 : decode cL_agrees 549 = .ok (.iconst 0, 1) := by decide +kernel
theorem dL_agrees_550 : decode cL_agrees 550 = .ok (.ireturn, 1) := by decide +kernel
theorem dL_list_0 : decode cL_list 0 = .ok (.iconst 0, 1) := by decide +kernel
theorem dL_list_1 : decode cL_list 1 = .ok (.istore_n 2, 1) := by decide +kernel
theorem dL_list_2 : decode cL_list 2 = .ok (.iconst 0, 1) := by decide +kernel
theorem dL_list_3 : decode cL_list 3 = .ok (.istore_n 3, 1) := by decide +kernel
theorem dL_list_4 : decode cL_list 4 = .ok (.iload_n 3, 1) := by decide +kernel
theorem dL_list_5 : decode cL_list 5 = .ok (.iload_n 1, 1) := by decide +kernel
theorem dL_list_6 : decode cL_list 6 = .ok (.if_icmp .ge 158, 3) := by decide +kernel
theorem dL_list_9 : decode cL_list 9 = .ok (.aload_n 0, 1) := by decide +kernel
theorem dL_list_10 : decode cL_list 10 = .ok (.iload_n 3, 1) := by decide +kernel
theorem dL_list_11 : decode cL_list 11 = .ok (.invokevirtual 56, 3) := by decide +kernel
theorem dL_list_14 : decode cL_list 14 = .ok (.istore 4, 2) := by decide +kernel
theorem dL_list_16 : decode cL_list 16 = .ok (.iload 4, 2) := by decide +kernel
theorem dL_list_18 : decode cL_list 18 = .ok (.ifCond .lt 24, 3) := by decide +kernel
theorem dL_list_21 : decode cL_list 21 = .ok (.iload_n 2, 1) := by decide +kernel
theorem dL_list_22 : decode cL_list 22 = .ok (.iload 4, 2) := by decide +kernel
theorem dL_list_24 : decode cL_list 24 = .ok (.ishr, 1) := by decide +kernel
theorem dL_list_25 : decode cL_list 25 = .ok (.iconst 1, 1) := by decide +kernel
theorem dL_list_26 : decode cL_list 26 = .ok (.iand, 1) := by decide +kernel
theorem dL_list_27 : decode cL_list 27 = .ok (.iconst 1, 1) := by decide +kernel
theorem dL_list_28 : decode cL_list 28 = .ok (.if_icmp .eq 14, 3) := by decide +kernel
theorem dL_list_31 : decode cL_list 31 = .ok (.aload_n 0, 1) := by decide +kernel
theorem dL_list_32 : decode cL_list 32 = .ok (.iload 4, 2) := by decide +kernel
theorem dL_list_34 : decode cL_list 34 = .ok (.bipush 15, 2) := by decide +kernel
theorem dL_list_36 : decode cL_list 36 = .ok (.invokevirtual 31, 3) := by decide +kernel
theorem dL_list_39 : decode cL_list 39 = .ok (.ifCond .eq 5, 3) := by decide +kernel
theorem dL_list_42 : decode cL_list 42 = .ok (.iconst 0, 1) := by decide +kernel
theorem dL_list_43 : decode cL_list 43 = .ok (.ireturn, 1) := by decide +kernel
theorem dL_list_44 : decode cL_list 44 = .ok (.iload_n 2, 1) := by decide +kernel
theorem dL_list_45 : decode cL_list 45 = .ok (.iconst 1, 1) := by decide +kernel
theorem dL_list_46 : decode cL_list 46 = .ok (.iload 4, 2) := by decide +kernel
theorem dL_list_48 : decode cL_list 48 = .ok (.ishl, 1) := by decide +kernel
theorem dL_list_49 : decode cL_list 49 = .ok (.ior, 1) := by decide +kernel
theorem dL_list_50 : decode cL_list 50 = .ok (.istore_n 2, 1) := by decide +kernel
theorem dL_list_51 : decode cL_list 51 = .ok (.iload_n 3, 1) := by decide +kernel
theorem dL_list_52 : decode cL_list 52 = .ok (.ifCond .le 106, 3) := by decide +kernel
theorem dL_list_55 : decode cL_list 55 = .ok (.aload_n 0, 1) := by decide +kernel
theorem dL_list_56 : decode cL_list 56 = .ok (.iload_n 3, 1) := by decide +kernel
theorem dL_list_57 : decode cL_list 57 = .ok (.iconst 1, 1) := by decide +kernel
theorem dL_list_58 : decode cL_list 58 = .ok (.isub, 1) := by decide +kernel
theorem dL_list_59 : decode cL_list 59 = .ok (.invokevirtual 56, 3) := by decide +kernel
theorem dL_list_62 : decode cL_list 62 = .ok (.istore 5, 2) := by decide +kernel
theorem dL_list_64 : decode cL_list 64 = .ok (.aload_n 0, 1) := by decide +kernel
theorem dL_list_65 : decode cL_list 65 = .ok (.iload 5, 2) := by decide +kernel
theorem dL_list_67 : decode cL_list 67 = .ok (.iconst 5, 1) := by decide +kernel
theorem dL_list_68 : decode cL_list 68 = .ok (.invokevirtual 31, 3) := by decide +kernel
theorem dL_list_71 : decode cL_list 71 = .ok (.aload_n 0, 1) := by decide +kernel
theorem dL_list_72 : decode cL_list 72 = .ok (.iload 4, 2) := by decide +kernel
theorem dL_list_74 : decode cL_list 74 = .ok (.iconst 5, 1) := by decide +kernel
theorem dL_list_75 : decode cL_list 75 = .ok (.invokevirtual 31, 3) := by decide +kernel
theorem dL_list_78 : decode cL_list 78 = .ok (.isub, 1) := by decide +kernel
theorem dL_list_79 : decode cL_list 79 = .ok (.istore 6, 2) := by decide +kernel
theorem dL_list_81 : decode cL_list 81 = .ok (.iload 6, 2) := by decide +kernel
theorem dL_list_83 : decode cL_list 83 = .ok (.ifCond .ne 23, 3) := by decide +kernel
theorem dL_list_86 : decode cL_list 86 = .ok (.aload_n 0, 1) := by decide +kernel
theorem dL_list_87 : decode cL_list 87 = .ok (.iload 5, 2) := by decide +kernel
theorem dL_list_89 : decode cL_list 89 = .ok (.bipush 10, 2) := by decide +kernel
theorem dL_list_91 : decode cL_list 91 = .ok (.invokevirtual 31, 3) := by decide +kernel
theorem dL_list_94 : decode cL_list 94 = .ok (.aload_n 0, 1) := by decide +kernel
theorem dL_list_95 : decode cL_list 95 = .ok (.iload 4, 2) := by decide +kernel
theorem dL_list_97 : decode cL_list 97 = .ok (.bipush 10, 2) := by decide +kernel
theorem dL_list_99 : decode cL_list 99 = .ok (.invokevirtual 31, 3) := by decide +kernel
theorem dL_list_102 : decode cL_list 102 = .ok (.isub, 1) := by decide +kernel
theorem dL_list_103 : decode cL_list 103 = .ok (.goto 5, 3) := by decide +kernel
theorem dL_list_106 : decode cL_list 106 = .ok (.iload 6, 2) := by decide +kernel
theorem dL_list_108 : decode cL_list 108 = .ok (.istore 6, 2) := by decide +kernel
theorem dL_list_110 : decode cL_list 110 = .ok (.iload 6, 2) := by decide +kernel
theorem dL_list_112 : decode cL_list 112 = .ok (.ifCond .ne 23, 3) := by decide +kernel
theorem dL_list_115 : decode cL_list 115 = .ok (.aload_n 0, 1) := by decide +kernel
theorem dL_list_116 : decode cL_list 116 = .ok (.iload 5, 2) := by decide +kernel
theorem dL_list_118 : decode cL_list 118 = .ok (.bipush 12, 2) := by decide +kernel
theorem dL_list_120 : decode cL_list 120 = .ok (.invokevirtual 31, 3) := by decide +kernel
theorem dL_list_123 : decode cL_list 123 = .ok (.aload_n 0, 1) := by decide +kernel
theorem dL_list_124 : decode cL_list 124 = .ok (.iload 4, 2) := by decide +kernel
theorem dL_list_126 : decode cL_list 126 = .ok (.bipush 12, 2) := by decide +kernel
theorem dL_list_128 : decode cL_list 128 = .ok (.invokevirtual 31, 3) := by decide +kernel
theorem dL_list_131 : decode cL_list 131 = .ok (.isub, 1) := by decide +kernel
theorem dL_list_132 : decode cL_list 132 = .ok (.goto 5, 3) := by decide +kernel
theorem dL_list_135 : decode cL_list 135 = .ok (.iload 6, 2) := by decide +kernel
theorem dL_list_137 : decode cL_list 137 = .ok (.istore 6, 2) := by decide +kernel
theorem dL_list_139 : decode cL_list 139 = .ok (.iload 6, 2) := by decide +kernel
theorem dL_list_141 : decode cL_list 141 = .ok (.ifCond .gt 15, 3) := by decide +kernel
theorem dL_list_144 : decode cL_list 144 = .ok (.iload 6, 2) := by decide +kernel
theorem dL_list_146 : decode cL_list 146 = .ok (.ifCond .ne 12, 3) := by decide +kernel
theorem dL_list_149 : decode cL_list 149 = .ok (.iload 5, 2) := by decide +kernel
theorem dL_list_151 : decode cL_list 151 = .ok (.iload 4, 2) := by decide +kernel
theorem dL_list_153 : decode cL_list 153 = .ok (.if_icmp .le 5, 3) := by decide +kernel
theorem dL_list_156 : decode cL_list 156 = .ok (.iconst 0, 1) := by decide +kernel
theorem dL_list_157 : decode cL_list 157 = .ok (.ireturn, 1) := by decide +kernel
theorem dL_list_158 : decode cL_list 158 = .ok (.iinc 3 1, 3) := by decide +kernel
theorem dL_list_161 : decode cL_list 161 = .ok (.goto (-157), 3) := by decide +kernel
theorem dL_list_164 : decode cL_list 164 = .ok (.aload_n 0, 1) := by decide +kernel
theorem dL_list_165 : decode cL_list 165 = .ok (.iload_n 1, 1) := by decide +kernel
theorem dL_list_166 : decode cL_list 166 = .ok (.invokevirtual 56, 3) := by decide +kernel
theorem dL_list_169 : decode cL_list 169 = .ok (.sipush (-20009), 3) := by decide +kernel
theorem dL_list_172 : decode cL_list 172 = .ok (.if_icmp .ne 7, 3) := by decide +kernel
theorem dL_list_175 : decode cL_list 175 = .ok (.iconst 1, 1) := by decide +kernel
theorem dL_list_176 : decode cL_list 176 = .ok (.goto 4, 3) := by decide +kernel
theorem dL_list_179 : decode cL_list 179 = .ok (.iconst 0, 1) := by decide +kernel
theorem dL_list_180 : decode cL_list 180 = .ok (.ireturn, 1) := by decide +kernel
theorem dL_acks_0 : decode cL_acks 0 = .ok (.aload_n 0, 1) := by decide +kernel
theorem dL_acks_1 : decode cL_acks 1 = .ok (.invokevirtual 9, 3) := by decide +kernel
theorem dL_acks_4 : decode cL_acks 4 = .ok (.lstore_n 3, 1) := by decide +kernel
theorem dL_acks_5 : decode cL_acks 5 = .ok (.aload_n 0, 1) := by decide +kernel
theorem dL_acks_6 : decode cL_acks 6 = .ok (.invokevirtual 65, 3) := by decide +kernel
theorem dL_acks_9 : decode cL_acks 9 = .ok (.istore 5, 2) := by decide +kernel
theorem dL_acks_11 : decode cL_acks 11 = .ok (.iload_n 2, 1) := by decide +kernel
theorem dL_acks_12 : decode cL_acks 12 = .ok (.ifCond .eq 120, 3) := by decide +kernel
theorem dL_acks_15 : decode cL_acks 15 = .ok (.iconst 0, 1) := by decide +kernel
theorem dL_acks_16 : decode cL_acks 16 = .ok (.istore 6, 2) := by decide +kernel
theorem dL_acks_18 : decode cL_acks 18 = .ok (.iconst 0, 1) := by decide +kernel
theorem dL_acks_19 : decode cL_acks 19 = .ok (.istore 7, 2) := by decide +kernel
theorem dL_acks_21 : decode cL_acks 21 = .ok (.aload_n 0, 1) := by decide +kernel
theorem dL_acks_22 : decode cL_acks 22 = .ok (.iload 7, 2) := by decide +kernel
theorem dL_acks_24 : decode cL_acks 24 = .ok (.invokevirtual 56, 3) := by decide +kernel
theorem dL_acks_27 : decode cL_acks 27 = .ok (.ifCond .lt 34, 3) := by decide +kernel
theorem dL_acks_30 : decode cL_acks 30 = .ok (.iload 6, 2) := by decide +kernel
theorem dL_acks_32 : decode cL_acks 32 = .ok (.aload_n 0, 1) := by decide +kernel
theorem dL_acks_33 : decode cL_acks 33 = .ok (.aload_n 0, 1) := by decide +kernel
theorem dL_acks_34 : decode cL_acks 34 = .ok (.iload 7, 2) := by decide +kernel
theorem dL_acks_36 : decode cL_acks 36 = .ok (.invokevirtual 56, 3) := by decide +kernel
theorem dL_acks_39 : decode cL_acks 39 = .ok (.bipush 10, 2) := by decide +kernel
theorem dL_acks_41 : decode cL_acks 41 = .ok (.invokevirtual 31, 3) := by decide +kernel
theorem dL_acks_44 : decode cL_acks 44 = .ok (.ifCond .ne 7, 3) := by decide +kernel
theorem dL_acks_47 : decode cL_acks 47 = .ok (.iconst 1, 1) := by decide +kernel
theorem dL_acks_48 : decode cL_acks 48 = .ok (.goto 4, 3) := by decide +kernel
theorem dL_acks_51 : decode cL_acks 51 = .ok (.iconst 0, 1) := by decide +kernel
theorem dL_acks_52 : decode cL_acks 52 = .ok (.iadd, 1) := by decide +kernel
theorem dL_acks_53 : decode cL_acks 53 = .ok (.istore 6, 2) := by decide +kernel
theorem dL_acks_55 : decode cL_acks 55 = .ok (.iinc 7 1, 3) := by decide +kernel
theorem dL_acks_58 : decode cL_acks 58 = .ok (.goto (-37), 3) := by decide +kernel
theorem dL_acks_61 : decode cL_acks 61 = .ok (.aload_n 0, 1) := by decide +kernel
theorem dL_acks_62 : decode cL_acks 62 = .ok (.invokevirtual 81, 3) := by decide +kernel
theorem dL_acks_65 : decode cL_acks 65 = .ok (.istore 7, 2) := by decide +kernel
theorem dL_acks_67 : decode cL_acks 67 = .ok (.iload 7, 2) := by decide +kernel
theorem dL_acks_69 : decode cL_acks 69 = .ok (.iload 6, 2) := by decide +kernel
theorem dL_acks_71 : decode cL_acks 71 = .ok (.if_icmp .ne 59, 3) := by decide +kernel
theorem dL_acks_74 : decode cL_acks 74 = .ok (.aload_n 0, 1) := by decide +kernel
theorem dL_acks_75 : decode cL_acks 75 = .ok (.invokevirtual 65, 3) := by decide +kernel
theorem dL_acks_78 : decode cL_acks 78 = .ok (.iload 5, 2) := by decide +kernel
theorem dL_acks_80 : decode cL_acks 80 = .ok (.iload 6, 2) := by decide +kernel
theorem dL_acks_82 : decode cL_acks 82 = .ok (.iadd, 1) := by decide +kernel
theorem dL_acks_83 : decode cL_acks 83 = .ok (.if_icmp .ne 47, 3) := by decide +kernel
theorem dL_acks_86 : decode cL_acks 86 = .ok (.iload 6, 2) := by decide +kernel
theorem dL_acks_88 : decode cL_acks 88 = .ok (.ifCond .eq 13, 3) := by decide +kernel
theorem dL_acks_91 : decode cL_acks 91 = .ok (.aload_n 0, 1) := by decide +kernel
theorem dL_acks_92 : decode cL_acks 92 = .ok (.iconst 0, 1) := by decide +kernel
theorem dL_acks_93 : decode cL_acks 93 = .ok (.iconst 1, 1) := by decide +kernel
theorem dL_acks_94 : decode cL_acks 94 = .ok (.invokevirtual 62, 3) := by decide +kernel
theorem dL_acks_97 : decode cL_acks 97 = .ok (.iconst 3, 1) := by decide +kernel
theorem dL_acks_98 : decode cL_acks 98 = .ok (.if_icmp .ne 32, 3) := by decide +kernel
theorem dL_acks_101 : decode cL_acks 101 = .ok (.aload_n 0, 1) := by decide +kernel
theorem dL_acks_102 : decode cL_acks 102 = .ok (.invokevirtual 84, 3) := by decide +kernel
theorem dL_acks_105 : decode cL_acks 105 = .ok (.ifCond .lt 25, 3) := by decide +kernel
theorem dL_acks_108 : decode cL_acks 108 = .ok (.aload_n 0, 1) := by decide +kernel
theorem dL_acks_109 : decode cL_acks 109 = .ok (.invokevirtual 9, 3) := by decide +kernel
theorem dL_acks_112 : decode cL_acks 112 = .ok (.lload_n 3, 1) := by decide +kernel
theorem dL_acks_113 : decode cL_acks 113 = .ok (.lcmp, 1) := by decide +kernel
theorem dL_acks_114 : decode cL_acks 114 = .ok (.ifCond .ne 16, 3) := by decide +kernel
theorem dL_acks_117 : decode cL_acks 117 = .ok (.aload_n 0, 1) := by decide +kernel
theorem dL_acks_118 : decode cL_acks 118 = .ok (.invokevirtual 81, 3) := by decide +kernel
theorem dL_acks_121 : decode cL_acks 121 = .ok (.iload 6, 2) := by decide +kernel
theorem dL_acks_123 : decode cL_acks 123 = .ok (.if_icmp .ne 7, 3) := by decide +kernel
theorem dL_acks_126 : decode cL_acks 126 = .ok (.iconst 1, 1) := by decide +kernel
theorem dL_acks_127 : decode cL_acks 127 = .ok (.goto 4, 3) := by decide +kernel
theorem dL_acks_130 : decode cL_acks 130 = .ok (.iconst 0, 1) := by decide +kernel
theorem dL_acks_131 : decode cL_acks 131 = .ok (.ireturn, 1) := by decide +kernel
theorem dL_acks_132 : decode cL_acks 132 = .ok (.aload_n 0, 1) := by decide +kernel
theorem dL_acks_133 : decode cL_acks 133 = .ok (.iconst 0, 1) := by decide +kernel
theorem dL_acks_134 : decode cL_acks 134 = .ok (.invokevirtual 44, 3) := by decide +kernel
theorem dL_acks_137 : decode cL_acks 137 = .ok (.aload_n 0, 1) := by decide +kernel
theorem dL_acks_138 : decode cL_acks 138 = .ok (.iload_n 1, 1) := by decide +kernel
theorem dL_acks_139 : decode cL_acks 139 = .ok (.bipush 12, 2) := by decide +kernel
theorem dL_acks_141 : decode cL_acks 141 = .ok (.invokevirtual 31, 3) := by decide +kernel
theorem dL_acks_144 : decode cL_acks 144 = .ok (.isub, 1) := by decide +kernel
theorem dL_acks_145 : decode cL_acks 145 = .ok (.istore 6, 2) := by decide +kernel
theorem dL_acks_147 : decode cL_acks 147 = .ok (.aload_n 0, 1) := by decide +kernel
theorem dL_acks_148 : decode cL_acks 148 = .ok (.iload_n 1, 1) := by decide +kernel
theorem dL_acks_149 : decode cL_acks 149 = .ok (.bipush 10, 2) := by decide +kernel
theorem dL_acks_151 : decode cL_acks 151 = .ok (.invokevirtual 31, 3) := by decide +kernel
theorem dL_acks_154 : decode cL_acks 154 = .ok (.ifCond .ne 7, 3) := by decide +kernel
theorem dL_acks_157 : decode cL_acks 157 = .ok (.iconst 1, 1) := by decide +kernel
theorem dL_acks_158 : decode cL_acks 158 = .ok (.goto 4, 3) := by decide +kernel
theorem dL_acks_161 : decode cL_acks 161 = .ok (.iconst 0, 1) := by decide +kernel
theorem dL_acks_162 : decode cL_acks 162 = .ok (.istore 7, 2) := by decide +kernel
theorem dL_acks_164 : decode cL_acks 164 = .ok (.aload_n 0, 1) := by decide +kernel
theorem dL_acks_165 : decode cL_acks 165 = .ok (.iload_n 1, 1) := by decide +kernel
theorem dL_acks_166 : decode cL_acks 166 = .ok (.invokevirtual 47, 3) := by decide +kernel
theorem dL_acks_169 : decode cL_acks 169 = .ok (.istore 8, 2) := by decide +kernel
theorem dL_acks_171 : decode cL_acks 171 = .ok (.iload 7, 2) := by decide +kernel
theorem dL_acks_173 : decode cL_acks 173 = .ok (.ifCond .eq 74, 3) := by decide +kernel
theorem dL_acks_176 : decode cL_acks 176 = .ok (.iload 8, 2) := by decide +kernel
theorem dL_acks_178 : decode cL_acks 178 = .ok (.iload 6, 2) := by decide +kernel
theorem dL_acks_180 : decode cL_acks 180 = .ok (.if_icmp .ne 63, 3) := by decide +kernel
theorem dL_acks_183 : decode cL_acks 183 = .ok (.aload_n 0, 1) := by decide +kernel
theorem dL_acks_184 : decode cL_acks 184 = .ok (.iload_n 1, 1) := by decide +kernel
theorem dL_acks_185 : decode cL_acks 185 = .ok (.bipush 10, 2) := by decide +kernel
theorem dL_acks_187 : decode cL_acks 187 = .ok (.invokevirtual 31, 3) := by decide +kernel
theorem dL_acks_190 : decode cL_acks 190 = .ok (.iconst 1, 1) := by decide +kernel
theorem dL_acks_191 : decode cL_acks 191 = .ok (.if_icmp .ne 52, 3) := by decide +kernel
theorem dL_acks_194 : decode cL_acks 194 = .ok (.aload_n 0, 1) := by decide +kernel
theorem dL_acks_195 : decode cL_acks 195 = .ok (.iconst 0, 1) := by decide +kernel
theorem dL_acks_196 : decode cL_acks 196 = .ok (.iconst 1, 1) := by decide +kernel
theorem dL_acks_197 : decode cL_acks 197 = .ok (.invokevirtual 62, 3) := by decide +kernel
theorem dL_acks_200 : decode cL_acks 200 = .ok (.iconst 3, 1) := by decide +kernel
theorem dL_acks_201 : decode cL_acks 201 = .ok (.if_icmp .ne 42, 3) := by decide +kernel
theorem dL_acks_204 : decode cL_acks 204 = .ok (.aload_n 0, 1) := by decide +kernel
theorem dL_acks_205 : decode cL_acks 205 = .ok (.iconst 0, 1) := by decide +kernel
theorem dL_acks_206 : decode cL_acks 206 = .ok (.iconst 2, 1) := by decide +kernel
theorem dL_acks_207 : decode cL_acks 207 = .ok (.invokevirtual 62, 3) := by decide +kernel
theorem dL_acks_210 : decode cL_acks 210 = .ok (.iload_n 1, 1) := by decide +kernel
theorem dL_acks_211 : decode cL_acks 211 = .ok (.if_icmp .ne 32, 3) := by decide +kernel
theorem dL_acks_214 : decode cL_acks 214 = .ok (.aload_n 0, 1) := by decide +kernel
theorem dL_acks_215 : decode cL_acks 215 = .ok (.iconst 0, 1) := by decide +kernel
theorem dL_acks_216 : decode cL_acks 216 = .ok (.iconst 0, 1) := by decide +kernel
theorem dL_acks_217 : decode cL_acks 217 = .ok (.invokevirtual 62, 3) := by decide +kernel
theorem dL_acks_220 : decode cL_acks 220 = .ok (.aload_n 0, 1) := by decide +kernel
theorem dL_acks_221 : decode cL_acks 221 = .ok (.iconst 0, 1) := by decide +kernel
theorem dL_acks_222 : decode cL_acks 222 = .ok (.invokevirtual 44, 3) := by decide +kernel
theorem dL_acks_225 : decode cL_acks 225 = .ok (.if_icmp .ne 18, 3) := by decide +kernel
theorem dL_acks_228 : decode cL_acks 228 = .ok (.aload_n 0, 1) := by decide +kernel
theorem dL_acks_229 : decode cL_acks 229 = .ok (.iload_n 1, 1) := by decide +kernel
theorem dL_acks_230 : decode cL_acks 230 = .ok (.invokevirtual 47, 3) := by decide +kernel
theorem dL_acks_233 : decode cL_acks 233 = .ok (.sipush (-20002), 3) := by decide +kernel
theorem dL_acks_236 : decode cL_acks 236 = .ok (.if_icmp .ne 7, 3) := by decide +kernel
theorem dL_acks_239 : decode cL_acks 239 = .ok (.iconst 1, 1) := by decide +kernel
theorem dL_acks_240 : decode cL_acks 240 = .ok (.goto 29, 3) := by decide +kernel
theorem dL_acks_243 : decode cL_acks 243 = .ok (.iconst 0, 1) := by decide +kernel
theorem dL_acks_244 : decode cL_acks 244 = .ok (.goto 25, 3) := by decide +kernel
theorem dL_acks_247 : decode cL_acks 247 = .ok (.iload 8, 2) := by decide +kernel
theorem dL_acks_249 : decode cL_acks 249 = .ok (.sipush (-20002), 3) := by decide +kernel
theorem dL_acks_252 : decode cL_acks 252 = .ok (.if_icmp .ne 16, 3) := by decide +kernel
theorem dL_acks_255 : decode cL_acks 255 = .ok (.aload_n 0, 1) := by decide +kernel
theorem dL_acks_256 : decode cL_acks 256 = .ok (.invokevirtual 9, 3) := by decide +kernel
theorem dL_acks_259 : decode cL_acks 259 = .ok (.lload_n 3, 1) := by decide +kernel
theorem dL_acks_260 : decode cL_acks 260 = .ok (.lcmp, 1) := by decide +kernel
theorem dL_acks_261 : decode cL_acks 261 = .ok (.ifCond .ne 7, 3) := by decide +kernel
theorem dL_acks_264 : decode cL_acks 264 = .ok (.iconst 1, 1) := by decide +kernel
theorem dL_acks_265 : decode cL_acks 265 = .ok (.goto 4, 3) := by decide +kernel
theorem dL_acks_268 : decode cL_acks 268 = .ok (.iconst 0, 1) := by decide +kernel
theorem dL_acks_269 : decode cL_acks 269 = .ok (.ireturn, 1) := by decide +kernel
theorem dL_shelves_0 : decode cL_shelves 0 = .ok (.aload_n 0, 1) := by decide +kernel
theorem dL_shelves_1 : decode cL_shelves 1 = .ok (.iconst 0, 1) := by decide +kernel
theorem dL_shelves_2 : decode cL_shelves 2 = .ok (.invokevirtual 44, 3) := by decide +kernel
theorem dL_shelves_5 : decode cL_shelves 5 = .ok (.istore_n 3, 1) := by decide +kernel
theorem dL_shelves_6 : decode cL_shelves 6 = .ok (.aload_n 0, 1) := by decide +kernel
theorem dL_shelves_7 : decode cL_shelves 7 = .ok (.iload_n 1, 1) := by decide +kernel
theorem dL_shelves_8 : decode cL_shelves 8 = .ok (.bipush 13, 2) := by decide +kernel
theorem dL_shelves_10 : decode cL_shelves 10 = .ok (.invokevirtual 31, 3) := by decide +kernel
theorem dL_shelves_13 : decode cL_shelves 13 = .ok (.istore 4, 2) := by decide +kernel
theorem dL_shelves_15 : decode cL_shelves 15 = .ok (.aload_n 0, 1) := by decide +kernel
theorem dL_shelves_16 : decode cL_shelves 16 = .ok (.iload_n 1, 1) := by decide +kernel
theorem dL_shelves_17 : decode cL_shelves 17 = .ok (.iconst 5, 1) := by decide +kernel
theorem dL_shelves_18 : decode cL_shelves 18 = .ok (.invokevirtual 31, 3) := by decide +kernel
theorem dL_shelves_21 : decode cL_shelves 21 = .ok (.iconst 1, 1) := by decide +kernel
theorem dL_shelves_22 : decode cL_shelves 22 = .ok (.if_icmp .ne 32, 3) := by decide +kernel
theorem dL_shelves_25 : decode cL_shelves 25 = .ok (.aload_n 0, 1) := by decide +kernel
theorem dL_shelves_26 : decode cL_shelves 26 = .ok (.iload_n 1, 1) := by decide +kernel
theorem dL_shelves_27 : decode cL_shelves 27 = .ok (.iload_n 2, 1) := by decide +kernel
theorem dL_shelves_28 : decode cL_shelves 28 = .ok (.invokevirtual 50, 3) := by decide +kernel
theorem dL_shelves_31 : decode cL_shelves 31 = .ok (.sipush (-20002), 3) := by decide +kernel
theorem dL_shelves_34 : decode cL_shelves 34 = .ok (.if_icmp .ne 18, 3) := by decide +kernel
theorem dL_shelves_37 : decode cL_shelves 37 = .ok (.aload_n 0, 1) := by decide +kernel
theorem dL_shelves_38 : decode cL_shelves 38 = .ok (.iload_n 1, 1) := by decide +kernel
theorem dL_shelves_39 : decode cL_shelves 39 = .ok (.invokevirtual 53, 3) := by decide +kernel
theorem dL_shelves_42 : decode cL_shelves 42 = .ok (.sipush (-20002), 3) := by decide +kernel
theorem dL_shelves_45 : decode cL_shelves 45 = .ok (.if_icmp .ne 7, 3) := by decide +kernel
theorem dL_shelves_48 : decode cL_shelves 48 = .ok (.iconst 1, 1) := by decide +kernel
theorem dL_shelves_49 : decode cL_shelves 49 = .ok (.goto 4, 3) := by decide +kernel
theorem dL_shelves_52 : decode cL_shelves 52 = .ok (.iconst 0, 1) := by decide +kernel
theorem dL_shelves_53 : decode cL_shelves 53 = .ok (.ireturn, 1) := by decide +kernel
theorem dL_shelves_54 : decode cL_shelves 54 = .ok (.iload 4, 2) := by decide +kernel
theorem dL_shelves_56 : decode cL_shelves 56 = .ok (.ifCond .le 59, 3) := by decide +kernel
theorem dL_shelves_59 : decode cL_shelves 59 = .ok (.iload_n 2, 1) := by decide +kernel
theorem dL_shelves_60 : decode cL_shelves 60 = .ok (.iconst 1, 1) := by decide +kernel
theorem dL_shelves_61 : decode cL_shelves 61 = .ok (.iand, 1) := by decide +kernel
theorem dL_shelves_62 : decode cL_shelves 62 = .ok (.iconst 1, 1) := by decide +kernel
theorem dL_shelves_63 : decode cL_shelves 63 = .ok (.if_icmp .ne 52, 3) := by decide +kernel
theorem dL_shelves_66 : decode cL_shelves 66 = .ok (.aload_n 0, 1) := by decide +kernel
theorem dL_shelves_67 : decode cL_shelves 67 = .ok (.iload_n 1, 1) := by decide +kernel
theorem dL_shelves_68 : decode cL_shelves 68 = .ok (.invokevirtual 53, 3) := by decide +kernel
theorem dL_shelves_71 : decode cL_shelves 71 = .ok (.iload 4, 2) := by decide +kernel
theorem dL_shelves_73 : decode cL_shelves 73 = .ok (.iload_n 3, 1) := by decide +kernel
theorem dL_shelves_74 : decode cL_shelves 74 = .ok (.isub, 1) := by decide +kernel
theorem dL_shelves_75 : decode cL_shelves 75 = .ok (.if_icmp .ne 38, 3) := by decide +kernel
theorem dL_shelves_78 : decode cL_shelves 78 = .ok (.aload_n 0, 1) := by decide +kernel
theorem dL_shelves_79 : decode cL_shelves 79 = .ok (.iload_n 1, 1) := by decide +kernel
theorem dL_shelves_80 : decode cL_shelves 80 = .ok (.bipush 13, 2) := by decide +kernel
theorem dL_shelves_82 : decode cL_shelves 82 = .ok (.invokevirtual 31, 3) := by decide +kernel
theorem dL_shelves_85 : decode cL_shelves 85 = .ok (.ifCond .ne 28, 3) := by decide +kernel
theorem dL_shelves_88 : decode cL_shelves 88 = .ok (.aload_n 0, 1) := by decide +kernel
theorem dL_shelves_89 : decode cL_shelves 89 = .ok (.iconst 0, 1) := by decide +kernel
theorem dL_shelves_90 : decode cL_shelves 90 = .ok (.iconst 1, 1) := by decide +kernel
theorem dL_shelves_91 : decode cL_shelves 91 = .ok (.invokevirtual 62, 3) := by decide +kernel
theorem dL_shelves_94 : decode cL_shelves 94 = .ok (.iconst 5, 1) := by decide +kernel
theorem dL_shelves_95 : decode cL_shelves 95 = .ok (.if_icmp .ne 18, 3) := by decide +kernel
theorem dL_shelves_98 : decode cL_shelves 98 = .ok (.aload_n 0, 1) := by decide +kernel
theorem dL_shelves_99 : decode cL_shelves 99 = .ok (.iload_n 1, 1) := by decide +kernel
theorem dL_shelves_100 : decode cL_shelves 100 = .ok (.invokevirtual 53, 3) := by decide +kernel
theorem dL_shelves_103 : decode cL_shelves 103 = .ok (.sipush (-20002), 3) := by decide +kernel
theorem dL_shelves_106 : decode cL_shelves 106 = .ok (.if_icmp .ne 7, 3) := by decide +kernel
theorem dL_shelves_109 : decode cL_shelves 109 = .ok (.iconst 1, 1) := by decide +kernel
theorem dL_shelves_110 : decode cL_shelves 110 = .ok (.goto 4, 3) := by decide +kernel
theorem dL_shelves_113 : decode cL_shelves 113 = .ok (.iconst 0, 1) := by decide +kernel
theorem dL_shelves_114 : decode cL_shelves 114 = .ok (.ireturn, 1) := by decide +kernel
theorem dL_shelves_115 : decode cL_shelves 115 = .ok (.aload_n 0, 1) := by decide +kernel
theorem dL_shelves_116 : decode cL_shelves 116 = .ok (.iload_n 1, 1) := by decide +kernel
theorem dL_shelves_117 : decode cL_shelves 117 = .ok (.iload_n 2, 1) := by decide +kernel
theorem dL_shelves_118 : decode cL_shelves 118 = .ok (.invokevirtual 50, 3) := by decide +kernel
theorem dL_shelves_121 : decode cL_shelves 121 = .ok (.iload_n 3, 1) := by decide +kernel
theorem dL_shelves_122 : decode cL_shelves 122 = .ok (.iload_n 2, 1) := by decide +kernel
theorem dL_shelves_123 : decode cL_shelves 123 = .ok (.iadd, 1) := by decide +kernel
theorem dL_shelves_124 : decode cL_shelves 124 = .ok (.if_icmp .ne 40, 3) := by decide +kernel
theorem dL_shelves_127 : decode cL_shelves 127 = .ok (.aload_n 0, 1) := by decide +kernel
theorem dL_shelves_128 : decode cL_shelves 128 = .ok (.iload_n 1, 1) := by decide +kernel
theorem dL_shelves_129 : decode cL_shelves 129 = .ok (.bipush 13, 2) := by decide +kernel
theorem dL_shelves_131 : decode cL_shelves 131 = .ok (.invokevirtual 31, 3) := by decide +kernel
theorem dL_shelves_134 : decode cL_shelves 134 = .ok (.iload_n 3, 1) := by decide +kernel
theorem dL_shelves_135 : decode cL_shelves 135 = .ok (.iload_n 2, 1) := by decide +kernel
theorem dL_shelves_136 : decode cL_shelves 136 = .ok (.iadd, 1) := by decide +kernel
theorem dL_shelves_137 : decode cL_shelves 137 = .ok (.if_icmp .ne 27, 3) := by decide +kernel
theorem dL_shelves_140 : decode cL_shelves 140 = .ok (.aload_n 0, 1) := by decide +kernel
theorem dL_shelves_141 : decode cL_shelves 141 = .ok (.iconst 0, 1) := by decide +kernel
theorem dL_shelves_142 : decode cL_shelves 142 = .ok (.iconst 1, 1) := by decide +kernel
theorem dL_shelves_143 : decode cL_shelves 143 = .ok (.invokevirtual 62, 3) := by decide +kernel
theorem dL_shelves_146 : decode cL_shelves 146 = .ok (.iconst 4, 1) := by decide +kernel
theorem dL_shelves_147 : decode cL_shelves 147 = .ok (.if_icmp .ne 17, 3) := by decide +kernel
theorem dL_shelves_150 : decode cL_shelves 150 = .ok (.aload_n 0, 1) := by decide +kernel
theorem dL_shelves_151 : decode cL_shelves 151 = .ok (.iconst 0, 1) := by decide +kernel
theorem dL_shelves_152 : decode cL_shelves 152 = .ok (.iconst 2, 1) := by decide +kernel
theorem dL_shelves_153 : decode cL_shelves 153 = .ok (.invokevirtual 62, 3) := by decide +kernel
theorem dL_shelves_156 : decode cL_shelves 156 = .ok (.iload_n 1, 1) := by decide +kernel
theorem dL_shelves_157 : decode cL_shelves 157 = .ok (.if_icmp .ne 7, 3) := by decide +kernel
theorem dL_shelves_160 : decode cL_shelves 160 = .ok (.iconst 1, 1) := by decide +kernel
theorem dL_shelves_161 : decode cL_shelves 161 = .ok (.goto 4, 3) := by decide +kernel
theorem dL_shelves_164 : decode cL_shelves 164 = .ok (.iconst 0, 1) := by decide +kernel
theorem dL_shelves_165 : decode cL_shelves 165 = .ok (.ireturn, 1) := by decide +kernel
theorem dL_ticks_0 : decode cL_ticks 0 = .ok (.aload_n 0, 1) := by decide +kernel
theorem dL_ticks_1 : decode cL_ticks 1 = .ok (.iconst 0, 1) := by decide +kernel
theorem dL_ticks_2 : decode cL_ticks 2 = .ok (.invokevirtual 44, 3) := by decide +kernel
theorem dL_ticks_5 : decode cL_ticks 5 = .ok (.istore_n 3, 1) := by decide +kernel
theorem dL_ticks_6 : decode cL_ticks 6 = .ok (.aload_n 0, 1) := by decide +kernel
theorem dL_ticks_7 : decode cL_ticks 7 = .ok (.invokevirtual 9, 3) := by decide +kernel
theorem dL_ticks_10 : decode cL_ticks 10 = .ok (.lstore 4, 2) := by decide +kernel
theorem dL_ticks_12 : decode cL_ticks 12 = .ok (.aload_n 0, 1) := by decide +kernel
theorem dL_ticks_13 : decode cL_ticks 13 = .ok (.iconst 4, 1) := by decide +kernel
theorem dL_ticks_14 : decode cL_ticks 14 = .ok (.invokevirtual 44, 3) := by decide +kernel
theorem dL_ticks_17 : decode cL_ticks 17 = .ok (.istore 6, 2) := by decide +kernel
theorem dL_ticks_19 : decode cL_ticks 19 = .ok (.aload_n 0, 1) := by decide +kernel
theorem dL_ticks_20 : decode cL_ticks 20 = .ok (.iload_n 2, 1) := by decide +kernel
theorem dL_ticks_21 : decode cL_ticks 21 = .ok (.invokevirtual 41, 3) := by decide +kernel
theorem dL_ticks_24 : decode cL_ticks 24 = .ok (.iload_n 3, 1) := by decide +kernel
theorem dL_ticks_25 : decode cL_ticks 25 = .ok (.iload_n 2, 1) := by decide +kernel
theorem dL_ticks_26 : decode cL_ticks 26 = .ok (.iadd, 1) := by decide +kernel
theorem dL_ticks_27 : decode cL_ticks 27 = .ok (.if_icmp .ne 27, 3) := by decide +kernel
theorem dL_ticks_30 : decode cL_ticks 30 = .ok (.aload_n 0, 1) := by decide +kernel
theorem dL_ticks_31 : decode cL_ticks 31 = .ok (.iconst 4, 1) := by decide +kernel
theorem dL_ticks_32 : decode cL_ticks 32 = .ok (.invokevirtual 44, 3) := by decide +kernel
theorem dL_ticks_35 : decode cL_ticks 35 = .ok (.iload 6, 2) := by decide +kernel
theorem dL_ticks_37 : decode cL_ticks 37 = .ok (.if_icmp .lt 17, 3) := by decide +kernel
theorem dL_ticks_40 : decode cL_ticks 40 = .ok (.aload_n 0, 1) := by decide +kernel
theorem dL_ticks_41 : decode cL_ticks 41 = .ok (.iconst 4, 1) := by decide +kernel
theorem dL_ticks_42 : decode cL_ticks 42 = .ok (.invokevirtual 44, 3) := by decide +kernel
theorem dL_ticks_45 : decode cL_ticks 45 = .ok (.iload 6, 2) := by decide +kernel
theorem dL_ticks_47 : decode cL_ticks 47 = .ok (.iload_n 1, 1) := by decide +kernel
theorem dL_ticks_48 : decode cL_ticks 48 = .ok (.iload_n 2, 1) := by decide +kernel
theorem dL_ticks_49 : decode cL_ticks 49 = .ok (.imul, 1) := by decide +kernel
theorem dL_ticks_50 : decode cL_ticks 50 = .ok (.iadd, 1) := by decide +kernel
theorem dL_ticks_51 : decode cL_ticks 51 = .ok (.if_icmp .le 5, 3) := by decide +kernel
theorem dL_ticks_54 : decode cL_ticks 54 = .ok (.iconst 0, 1) := by decide +kernel
theorem dL_ticks_55 : decode cL_ticks 55 = .ok (.ireturn, 1) := by decide +kernel
theorem dL_ticks_56 : decode cL_ticks 56 = .ok (.aload_n 0, 1) := by decide +kernel
theorem dL_ticks_57 : decode cL_ticks 57 = .ok (.invokevirtual 9, 3) := by decide +kernel
theorem dL_ticks_60 : decode cL_ticks 60 = .ok (.lstore 7, 2) := by decide +kernel
theorem dL_ticks_62 : decode cL_ticks 62 = .ok (.aload_n 0, 1) := by decide +kernel
theorem dL_ticks_63 : decode cL_ticks 63 = .ok (.invokevirtual 84, 3) := by decide +kernel
theorem dL_ticks_66 : decode cL_ticks 66 = .ok (.ifCond .lt 38, 3) := by decide +kernel
theorem dL_ticks_69 : decode cL_ticks 69 = .ok (.aload_n 0, 1) := by decide +kernel
theorem dL_ticks_70 : decode cL_ticks 70 = .ok (.invokevirtual 9, 3) := by decide +kernel
theorem dL_ticks_73 : decode cL_ticks 73 = .ok (.lload 4, 2) := by decide +kernel
theorem dL_ticks_75 : decode cL_ticks 75 = .ok (.lcmp, 1) := by decide +kernel
theorem dL_ticks_76 : decode cL_ticks 76 = .ok (.ifCond .ne 28, 3) := by decide +kernel
theorem dL_ticks_79 : decode cL_ticks 79 = .ok (.aload_n 0, 1) := by decide +kernel
theorem dL_ticks_80 : decode cL_ticks 80 = .ok (.iload_n 2, 1) := by decide +kernel
theorem dL_ticks_81 : decode cL_ticks 81 = .ok (.invokevirtual 41, 3) := by decide +kernel
theorem dL_ticks_84 : decode cL_ticks 84 = .ok (.iload_n 3, 1) := by decide +kernel
theorem dL_ticks_85 : decode cL_ticks 85 = .ok (.iload_n 2, 1) := by decide +kernel
theorem dL_ticks_86 : decode cL_ticks 86 = .ok (.iadd, 1) := by decide +kernel
theorem dL_ticks_87 : decode cL_ticks 87 = .ok (.if_icmp .ne 17, 3) := by decide +kernel
theorem dL_ticks_90 : decode cL_ticks 90 = .ok (.aload_n 0, 1) := by decide +kernel
theorem dL_ticks_91 : decode cL_ticks 91 = .ok (.invokevirtual 9, 3) := by decide +kernel
theorem dL_ticks_94 : decode cL_ticks 94 = .ok (.lload 7, 2) := by decide +kernel
theorem dL_ticks_96 : decode cL_ticks 96 = .ok (.lcmp, 1) := by decide +kernel
theorem dL_ticks_97 : decode cL_ticks 97 = .ok (.ifCond .ne 7, 3) := by decide +kernel
theorem dL_ticks_100 : decode cL_ticks 100 = .ok (.iconst 1, 1) := by decide +kernel
theorem dL_ticks_101 : decode cL_ticks 101 = .ok (.goto 4, 3) := by decide +kernel
theorem dL_ticks_104 : decode cL_ticks 104 = .ok (.iconst 0, 1) := by decide +kernel
theorem dL_ticks_105 : decode cL_ticks 105 = .ok (.ireturn, 1) := by decide +kernel
theorem dL_law_0 : decode cL_law 0 = .ok (.new 10, 3) := by decide +kernel
theorem dL_law_3 : decode cL_law 3 = .ok (.dup, 1) := by decide +kernel
theorem dL_law_4 : decode cL_law 4 = .ok (.invokespecial 87, 3) := by decide +kernel
theorem dL_law_7 : decode cL_law 7 = .ok (.astore_n 1, 1) := by decide +kernel
theorem dL_law_8 : decode cL_law 8 = .ok (.aload_n 1, 1) := by decide +kernel
theorem dL_law_9 : decode cL_law 9 = .ok (.invokevirtual 84, 3) := by decide +kernel
theorem dL_law_12 : decode cL_law 12 = .ok (.sipush (-20009), 3) := by decide +kernel
theorem dL_law_15 : decode cL_law 15 = .ok (.if_icmp .ne 62, 3) := by decide +kernel
theorem dL_law_18 : decode cL_law 18 = .ok (.aload_n 1, 1) := by decide +kernel
theorem dL_law_19 : decode cL_law 19 = .ok (.invokevirtual 88, 3) := by decide +kernel
theorem dL_law_22 : decode cL_law 22 = .ok (.ifCond .ne 55, 3) := by decide +kernel
theorem dL_law_25 : decode cL_law 25 = .ok (.aload_n 1, 1) := by decide +kernel
theorem dL_law_26 : decode cL_law 26 = .ok (.invokevirtual 65, 3) := by decide +kernel
theorem dL_law_29 : decode cL_law 29 = .ok (.ifCond .ne 48, 3) := by decide +kernel
theorem dL_law_32 : decode cL_law 32 = .ok (.aload_n 1, 1) := by decide +kernel
theorem dL_law_33 : decode cL_law 33 = .ok (.invokevirtual 91, 3) := by decide +kernel
theorem dL_law_36 : decode cL_law 36 = .ok (.sipush (-20009), 3) := by decide +kernel
theorem dL_law_39 : decode cL_law 39 = .ok (.if_icmp .ne 38, 3) := by decide +kernel
theorem dL_law_42 : decode cL_law 42 = .ok (.aload_n 1, 1) := by decide +kernel
theorem dL_law_43 : decode cL_law 43 = .ok (.invokevirtual 94, 3) := by decide +kernel
theorem dL_law_46 : decode cL_law 46 = .ok (.fconst 0, 1) := by decide +kernel
theorem dL_law_47 : decode cL_law 47 = .ok (.fcmp .l, 1) := by decide +kernel
theorem dL_law_48 : decode cL_law 48 = .ok (.ifCond .ne 29, 3) := by decide +kernel
theorem dL_law_51 : decode cL_law 51 = .ok (.aload_n 1, 1) := by decide +kernel
theorem dL_law_52 : decode cL_law 52 = .ok (.iconst 0, 1) := by decide +kernel
theorem dL_law_53 : decode cL_law 53 = .ok (.invokevirtual 56, 3) := by decide +kernel
theorem dL_law_56 : decode cL_law 56 = .ok (.sipush (-20009), 3) := by decide +kernel
theorem dL_law_59 : decode cL_law 59 = .ok (.if_icmp .ne 18, 3) := by decide +kernel
theorem dL_law_62 : decode cL_law 62 = .ok (.aload_n 1, 1) := by decide +kernel
theorem dL_law_63 : decode cL_law 63 = .ok (.invokevirtual 81, 3) := by decide +kernel
theorem dL_law_66 : decode cL_law 66 = .ok (.ifCond .ne 11, 3) := by decide +kernel
theorem dL_law_69 : decode cL_law 69 = .ok (.aload_n 1, 1) := by decide +kernel
theorem dL_law_70 : decode cL_law 70 = .ok (.iconst 3, 1) := by decide +kernel
theorem dL_law_71 : decode cL_law 71 = .ok (.invokevirtual 44, 3) := by decide +kernel
theorem dL_law_74 : decode cL_law 74 = .ok (.ifCond .eq 5, 3) := by decide +kernel
theorem dL_law_77 : decode cL_law 77 = .ok (.iconst 0, 1) := by decide +kernel
theorem dL_law_78 : decode cL_law 78 = .ok (.ireturn, 1) := by decide +kernel
theorem dL_law_79 : decode cL_law 79 = .ok (.iconst 2, 1) := by decide +kernel
theorem dL_law_80 : decode cL_law 80 = .ok (.aload_n 0, 1) := by decide +kernel
theorem dL_law_81 : decode cL_law 81 = .ok (.iconst 0, 1) := by decide +kernel
theorem dL_law_82 : decode cL_law 82 = .ok (.invokestatic 98, 3) := by decide +kernel
theorem dL_law_85 : decode cL_law 85 = .ok (.bipush 9, 2) := by decide +kernel
theorem dL_law_87 : decode cL_law 87 = .ok (.invokestatic 102, 3) := by decide +kernel
theorem dL_law_90 : decode cL_law 90 = .ok (.iadd, 1) := by decide +kernel
theorem dL_law_91 : decode cL_law 91 = .ok (.istore_n 2, 1) := by decide +kernel
theorem dL_law_92 : decode cL_law 92 = .ok (.iconst 0, 1) := by decide +kernel
theorem dL_law_93 : decode cL_law 93 = .ok (.istore_n 3, 1) := by decide +kernel
theorem dL_law_94 : decode cL_law 94 = .ok (.iload_n 3, 1) := by decide +kernel
theorem dL_law_95 : decode cL_law 95 = .ok (.iload_n 2, 1) := by decide +kernel
theorem dL_law_96 : decode cL_law 96 = .ok (.if_icmp .ge 193, 3) := by decide +kernel
theorem dL_law_99 : decode cL_law 99 = .ok (.aload_n 0, 1) := by decide +kernel
theorem dL_law_100 : decode cL_law 100 = .ok (.iconst 1, 1) := by decide +kernel
theorem dL_law_101 : decode cL_law 101 = .ok (.iload_n 3, 1) := by decide +kernel
theorem dL_law_102 : decode cL_law 102 = .ok (.iadd, 1) := by decide +kernel
theorem dL_law_103 : decode cL_law 103 = .ok (.invokestatic 98, 3) := by decide +kernel
theorem dL_law_106 : decode cL_law 106 = .ok (.istore 4, 2) := by decide +kernel
theorem dL_law_108 : decode cL_law 108 = .ok (.aload_n 1, 1) := by decide +kernel
theorem dL_law_109 : decode cL_law 109 = .ok (.iload 4, 2) := by decide +kernel
theorem dL_law_111 : decode cL_law 111 = .ok (.sipush 201, 3) := by decide +kernel
theorem dL_law_114 : decode cL_law 114 = .ok (.invokestatic 102, 3) := by decide +kernel
theorem dL_law_117 : decode cL_law 117 = .ok (.bipush 100, 2) := by decide +kernel
theorem dL_law_119 : decode cL_law 119 = .ok (.isub, 1) := by decide +kernel
theorem dL_law_120 : decode cL_law 120 = .ok (.iconst 1, 1) := by decide +kernel
theorem dL_law_121 : decode cL_law 121 = .ok (.iload 4, 2) := by decide +kernel
theorem dL_law_123 : decode cL_law 123 = .ok (.bipush 8, 2) := by decide +kernel
theorem dL_law_125 : decode cL_law 125 = .ok (.ishr, 1) := by decide +kernel
theorem dL_law_126 : decode cL_law 126 = .ok (.iconst 4, 1) := by decide +kernel
theorem dL_law_127 : decode cL_law 127 = .ok (.invokestatic 102, 3) := by decide +kernel
theorem dL_law_130 : decode cL_law 130 = .ok (.iadd, 1) := by decide +kernel
theorem dL_law_131 : decode cL_law 131 = .ok (.invokevirtual 15, 3) := by decide +kernel
theorem dL_law_134 : decode cL_law 134 = .ok (.iload_n 3, 1) := by decide +kernel
theorem dL_law_135 : decode cL_law 135 = .ok (.if_icmp .ne 108, 3) := by decide +kernel
theorem dL_law_138 : decode cL_law 138 = .ok (.aload_n 1, 1) := by decide +kernel
theorem dL_law_139 : decode cL_law 139 = .ok (.iload_n 3, 1) := by decide +kernel
theorem dL_law_140 : decode cL_law 140 = .ok (.iconst 0, 1) := by decide +kernel
theorem dL_law_141 : decode cL_law 141 = .ok (.iload 4, 2) := by decide +kernel
theorem dL_law_143 : decode cL_law 143 = .ok (.bipush 11, 2) := by decide +kernel
theorem dL_law_145 : decode cL_law 145 = .ok (.ishr, 1) := by decide +kernel
theorem dL_law_146 : decode cL_law 146 = .ok (.iconst 1, 1) := by decide +kernel
theorem dL_law_147 : decode cL_law 147 = .ok (.iand, 1) := by decide +kernel
theorem dL_law_148 : decode cL_law 148 = .ok (.invokevirtual 21, 3) := by decide +kernel
theorem dL_law_151 : decode cL_law 151 = .ok (.ifCond .ne 92, 3) := by decide +kernel
theorem dL_law_154 : decode cL_law 154 = .ok (.aload_n 1, 1) := by decide +kernel
theorem dL_law_155 : decode cL_law 155 = .ok (.iload_n 3, 1) := by decide +kernel
theorem dL_law_156 : decode cL_law 156 = .ok (.iconst 2, 1) := by decide +kernel
theorem dL_law_157 : decode cL_law 157 = .ok (.iload 4, 2) := by decide +kernel
theorem dL_law_159 : decode cL_law 159 = .ok (.bipush 12, 2) := by decide +kernel
theorem dL_law_161 : decode cL_law 161 = .ok (.ishr, 1) := by decide +kernel
theorem dL_law_162 : decode cL_law 162 = .ok (.bipush 30, 2) := by decide +kernel
theorem dL_law_164 : decode cL_law 164 = .ok (.invokestatic 102, 3) := by decide +kernel
theorem dL_law_167 : decode cL_law 167 = .ok (.invokevirtual 21, 3) := by decide +kernel
theorem dL_law_170 : decode cL_law 170 = .ok (.ifCond .ne 73, 3) := by decide +kernel
theorem dL_law_173 : decode cL_law 173 = .ok (.aload_n 1, 1) := by decide +kernel
theorem dL_law_174 : decode cL_law 174 = .ok (.iload_n 3, 1) := by decide +kernel
theorem dL_law_175 : decode cL_law 175 = .ok (.iconst 3, 1) := by decide +kernel
theorem dL_law_176 : decode cL_law 176 = .ok (.iload 4, 2) := by decide +kernel
theorem dL_law_178 : decode cL_law 178 = .ok (.bipush 17, 2) := by decide +kernel
theorem dL_law_180 : decode cL_law 180 = .ok (.ishr, 1) := by decide +kernel
theorem dL_law_181 : decode cL_law 181 = .ok (.iconst 3, 1) := by decide +kernel
theorem dL_law_182 : decode cL_law 182 = .ok (.invokestatic 102, 3) := by decide +kernel
theorem dL_law_185 : decode cL_law 185 = .ok (.invokevirtual 21, 3) := by decide +kernel
theorem dL_law_188 : decode cL_law 188 = .ok (.ifCond .ne 55, 3) := by decide +kernel
theorem dL_law_191 : decode cL_law 191 = .ok (.aload_n 1, 1) := by decide +kernel
theorem dL_law_192 : decode cL_law 192 = .ok (.iload_n 3, 1) := by decide +kernel
theorem dL_law_193 : decode cL_law 193 = .ok (.iconst 4, 1) := by decide +kernel
theorem dL_law_194 : decode cL_law 194 = .ok (.iload 4, 2) := by decide +kernel
theorem dL_law_196 : decode cL_law 196 = .ok (.bipush 19, 2) := by decide +kernel
theorem dL_law_198 : decode cL_law 198 = .ok (.ishr, 1) := by decide +kernel
theorem dL_law_199 : decode cL_law 199 = .ok (.iconst 3, 1) := by decide +kernel
theorem dL_law_200 : decode cL_law 200 = .ok (.invokestatic 102, 3) := by decide +kernel
theorem dL_law_203 : decode cL_law 203 = .ok (.invokevirtual 21, 3) := by decide +kernel
theorem dL_law_206 : decode cL_law 206 = .ok (.ifCond .ne 37, 3) := by decide +kernel
theorem dL_law_209 : decode cL_law 209 = .ok (.aload_n 1, 1) := by decide +kernel
theorem dL_law_210 : decode cL_law 210 = .ok (.iload_n 3, 1) := by decide +kernel
theorem dL_law_211 : decode cL_law 211 = .ok (.bipush 6, 2) := by decide +kernel
theorem dL_law_213 : decode cL_law 213 = .ok (.iload 4, 2) := by decide +kernel
theorem dL_law_215 : decode cL_law 215 = .ok (.bipush 21, 2) := by decide +kernel
theorem dL_law_217 : decode cL_law 217 = .ok (.ishr, 1) := by decide +kernel
theorem dL_law_218 : decode cL_law 218 = .ok (.iconst 3, 1) := by decide +kernel
theorem dL_law_219 : decode cL_law 219 = .ok (.iand, 1) := by decide +kernel
theorem dL_law_220 : decode cL_law 220 = .ok (.ifCond .ne 16, 3) := by decide +kernel
theorem dL_law_223 : decode cL_law 223 = .ok (.iload 4, 2) := by decide +kernel
theorem dL_law_225 : decode cL_law 225 = .ok (.bipush 23, 2) := by decide +kernel
theorem dL_law_227 : decode cL_law 227 = .ok (.ishr, 1) := by decide +kernel
theorem dL_law_228 : decode cL_law 228 = .ok (.bipush 16, 2) := by decide +kernel
theorem dL_law_230 : decode cL_law 230 = .ok (.invokestatic 102, 3) := by decide +kernel
theorem dL_law_233 : decode cL_law 233 = .ok (.goto 4, 3) := by decide +kernel
theorem dL_law_236 : decode cL_law 236 = .ok (.iconst 0, 1) := by decide +kernel
theorem dL_law_237 : decode cL_law 237 = .ok (.invokevirtual 21, 3) := by decide +kernel
theorem dL_law_240 : decode cL_law 240 = .ok (.ifCond .eq 5, 3) := by decide +kernel
theorem dL_law_243 : decode cL_law 243 = .ok (.iconst 0, 1) := by decide +kernel
theorem dL_law_244 : decode cL_law 244 = .ok (.ireturn, 1) := by decide +kernel
theorem dL_law_245 : decode cL_law 245 = .ok (.iload 4, 2) := by decide +kernel
theorem dL_law_247 : decode cL_law 247 = .ok (.bipush 27, 2) := by decide +kernel
theorem dL_law_249 : decode cL_law 249 = .ok (.ishr, 1) := by decide +kernel
theorem dL_law_250 : decode cL_law 250 = .ok (.iload_n 3, 1) := by decide +kernel
theorem dL_law_251 : decode cL_law 251 = .ok (.iconst 1, 1) := by decide +kernel
theorem dL_law_252 : decode cL_law 252 = .ok (.iadd, 1) := by decide +kernel
theorem dL_law_253 : decode cL_law 253 = .ok (.invokestatic 102, 3) := by decide +kernel
theorem dL_law_256 : decode cL_law 256 = .ok (.iconst 1, 1) := by decide +kernel
theorem dL_law_257 : decode cL_law 257 = .ok (.isub, 1) := by decide +kernel
theorem dL_law_258 : decode cL_law 258 = .ok (.istore 5, 2) := by decide +kernel
theorem dL_law_260 : decode cL_law 260 = .ok (.iload 4, 2) := by decide +kernel
theorem dL_law_262 : decode cL_law 262 = .ok (.iconst 4, 1) := by decide +kernel
theorem dL_law_263 : decode cL_law 263 = .ok (.ishr, 1) := by decide +kernel
theorem dL_law_264 : decode cL_law 264 = .ok (.iconst 1, 1) := by decide +kernel
theorem dL_law_265 : decode cL_law 265 = .ok (.iand, 1) := by decide +kernel
theorem dL_law_266 : decode cL_law 266 = .ok (.iconst 1, 1) := by decide +kernel
theorem dL_law_267 : decode cL_law 267 = .ok (.if_icmp .ne 16, 3) := by decide +kernel
theorem dL_law_270 : decode cL_law 270 = .ok (.aload_n 1, 1) := by decide +kernel
theorem dL_law_271 : decode cL_law 271 = .ok (.iload_n 3, 1) := by decide +kernel
theorem dL_law_272 : decode cL_law 272 = .ok (.iload 5, 2) := by decide +kernel
theorem dL_law_274 : decode cL_law 274 = .ok (.invokevirtual 25, 3) := by decide +kernel
theorem dL_law_277 : decode cL_law 277 = .ok (.iconst (-1), 1) := by decide +kernel
theorem dL_law_278 : decode cL_law 278 = .ok (.if_icmp .eq 5, 3) := by decide +kernel
theorem dL_law_281 : decode cL_law 281 = .ok (.iconst 0, 1) := by decide +kernel
theorem dL_law_282 : decode cL_law 282 = .ok (.ireturn, 1) := by decide +kernel
theorem dL_law_283 : decode cL_law 283 = .ok (.iinc 3 1, 3) := by decide +kernel
theorem dL_law_286 : decode cL_law 286 = .ok (.goto (-192), 3) := by decide +kernel
theorem dL_law_289 : decode cL_law 289 = .ok (.aload_n 1, 1) := by decide +kernel
theorem dL_law_290 : decode cL_law 290 = .ok (.iload_n 2, 1) := by decide +kernel
theorem dL_law_291 : decode cL_law 291 = .ok (.invokestatic 105, 3) := by decide +kernel
theorem dL_law_294 : decode cL_law 294 = .ok (.ifCond .eq 52, 3) := by decide +kernel
theorem dL_law_297 : decode cL_law 297 = .ok (.aload_n 1, 1) := by decide +kernel
theorem dL_law_298 : decode cL_law 298 = .ok (.iconst 1, 1) := by decide +kernel
theorem dL_law_299 : decode cL_law 299 = .ok (.aload_n 0, 1) := by decide +kernel
theorem dL_law_300 : decode cL_law 300 = .ok (.iconst 0, 1) := by decide +kernel
theorem dL_law_301 : decode cL_law 301 = .ok (.invokestatic 98, 3) := by decide +kernel
theorem dL_law_304 : decode cL_law 304 = .ok (.iconst 5, 1) := by decide +kernel
theorem dL_law_305 : decode cL_law 305 = .ok (.ishr, 1) := by decide +kernel
theorem dL_law_306 : decode cL_law 306 = .ok (.bipush 20, 2) := by decide +kernel
theorem dL_law_308 : decode cL_law 308 = .ok (.invokestatic 102, 3) := by decide +kernel
theorem dL_law_311 : decode cL_law 311 = .ok (.iadd, 1) := by decide +kernel
theorem dL_law_312 : decode cL_law 312 = .ok (.iconst 1, 1) := by decide +kernel
theorem dL_law_313 : decode cL_law 313 = .ok (.aload_n 0, 1) := by decide +kernel
theorem dL_law_314 : decode cL_law 314 = .ok (.iconst 0, 1) := by decide +kernel
theorem dL_law_315 : decode cL_law 315 = .ok (.invokestatic 98, 3) := by decide +kernel
theorem dL_law_318 : decode cL_law 318 = .ok (.bipush 10, 2) := by decide +kernel
theorem dL_law_320 : decode cL_law 320 = .ok (.ishr, 1) := by decide +kernel
theorem dL_law_321 : decode cL_law 321 = .ok (.iconst 5, 1) := by decide +kernel
theorem dL_law_322 : decode cL_law 322 = .ok (.invokestatic 102, 3) := by decide +kernel
theorem dL_law_325 : decode cL_law 325 = .ok (.iadd, 1) := by decide +kernel
theorem dL_law_326 : decode cL_law 326 = .ok (.aload_n 0, 1) := by decide +kernel
theorem dL_law_327 : decode cL_law 327 = .ok (.iconst 0, 1) := by decide +kernel
theorem dL_law_328 : decode cL_law 328 = .ok (.invokestatic 98, 3) := by decide +kernel
theorem dL_law_331 : decode cL_law 331 = .ok (.bipush 14, 2) := by decide +kernel
theorem dL_law_333 : decode cL_law 333 = .ok (.ishr, 1) := by decide +kernel
theorem dL_law_334 : decode cL_law 334 = .ok (.iconst 2, 1) := by decide +kernel
theorem dL_law_335 : decode cL_law 335 = .ok (.invokestatic 102, 3) := by decide +kernel
theorem dL_law_338 : decode cL_law 338 = .ok (.invokevirtual 38, 3) := by decide +kernel
theorem dL_law_341 : decode cL_law 341 = .ok (.ldc 108, 2) := by decide +kernel
theorem dL_law_343 : decode cL_law 343 = .ok (.if_icmp .eq 5, 3) := by decide +kernel
theorem dL_law_346 : decode cL_law 346 = .ok (.iconst 0, 1) := by decide +kernel
theorem dL_law_347 : decode cL_law 347 = .ok (.ireturn, 1) := by decide +kernel
theorem dL_law_348 : decode cL_law 348 = .ok (.iconst 0, 1) := by decide +kernel
theorem dL_law_349 : decode cL_law 349 = .ok (.istore_n 3, 1) := by decide +kernel
theorem dL_law_350 : decode cL_law 350 = .ok (.iload_n 3, 1) := by decide +kernel
theorem dL_law_351 : decode cL_law 351 = .ok (.bipush 26, 2) := by decide +kernel
theorem dL_law_353 : decode cL_law 353 = .ok (.if_icmp .ge 392, 3) := by decide +kernel
theorem dL_law_356 : decode cL_law 356 = .ok (.aload_n 0, 1) := by decide +kernel
theorem dL_law_357 : decode cL_law 357 = .ok (.bipush 12, 2) := by decide +kernel
theorem dL_law_359 : decode cL_law 359 = .ok (.iload_n 3, 1) := by decide +kernel
theorem dL_law_360 : decode cL_law 360 = .ok (.iadd, 1) := by decide +kernel
theorem dL_law_361 : decode cL_law 361 = .ok (.invokestatic 98, 3) := by decide +kernel
theorem dL_law_364 : decode cL_law 364 = .ok (.istore 4, 2) := by decide +kernel
theorem dL_law_366 : decode cL_law 366 = .ok (.iload 4, 2) := by decide +kernel
theorem dL_law_368 : decode cL_law 368 = .ok (.iconst 4, 1) := by decide +kernel
theorem dL_law_369 : decode cL_law 369 = .ok (.ishr, 1) := by decide +kernel
theorem dL_law_370 : decode cL_law 370 = .ok (.iload_n 2, 1) := by decide +kernel
theorem dL_law_371 : decode cL_law 371 = .ok (.invokestatic 102, 3) := by decide +kernel
theorem dL_law_374 : decode cL_law 374 = .ok (.istore 5, 2) := by decide +kernel
theorem dL_law_376 : decode cL_law 376 = .ok (.iconst 1, 1) := by decide +kernel
theorem dL_law_377 : decode cL_law 377 = .ok (.istore 6, 2) := by decide +kernel
theorem dL_law_379 : decode cL_law 379 = .ok (.iload 4, 2) := by decide +kernel
theorem dL_law_381 : decode cL_law 381 = .ok (.bipush 9, 2) := by decide +kernel
theorem dL_law_383 : decode cL_law 383 = .ok (.invokestatic 102, 3) := by decide +kernel
theorem dL_law_386 : decode cL_law 386 = .ok (.istore 7, 2) := by decide +kernel
theorem dL_law_388 : decode cL_law 388 = .ok (.iload 7, 2) := by decide +kernel
theorem dL_law_390 : decode cL_law 390 = .ok (.iconst 3, 1) := by decide +kernel
theorem dL_law_391 : decode cL_law 391 = .ok (.if_icmp .ge 115, 3) := by decide +kernel
theorem dL_law_394 : decode cL_law 394 = .ok (.iconst 0, 1) := by decide +kernel
theorem dL_law_395 : decode cL_law 395 = .ok (.istore 8, 2) := by decide +kernel
theorem dL_law_397 : decode cL_law 397 = .ok (.iload 8, 2) := by decide +kernel
theorem dL_law_399 : decode cL_law 399 = .ok (.iconst 3, 1) := by decide +kernel
theorem dL_law_400 : decode cL_law 400 = .ok (.if_icmp .ge 72, 3) := by decide +kernel
theorem dL_law_403 : decode cL_law 403 = .ok (.aload_n 1, 1) := by decide +kernel
theorem dL_law_404 : decode cL_law 404 = .ok (.iload 5, 2) := by decide +kernel
theorem dL_law_406 : decode cL_law 406 = .ok (.iload 8, 2) := by decide +kernel
theorem dL_law_408 : decode cL_law 408 = .ok (.iadd, 1) := by decide +kernel
theorem dL_law_409 : decode cL_law 409 = .ok (.iload_n 2, 1) := by decide +kernel
theorem dL_law_410 : decode cL_law 410 = .ok (.irem, 1) := by decide +kernel
theorem dL_law_411 : decode cL_law 411 = .ok (.bipush 7, 2) := by decide +kernel
theorem dL_law_413 : decode cL_law 413 = .ok (.invokevirtual 31, 3) := by decide +kernel
theorem dL_law_416 : decode cL_law 416 = .ok (.istore 9, 2) := by decide +kernel
theorem dL_law_418 : decode cL_law 418 = .ok (.iload 6, 2) := by decide +kernel
theorem dL_law_420 : decode cL_law 420 = .ok (.ifCond .eq 43, 3) := by decide +kernel
theorem dL_law_423 : decode cL_law 423 = .ok (.aload_n 1, 1) := by decide +kernel
theorem dL_law_424 : decode cL_law 424 = .ok (.iload 5, 2) := by decide +kernel
theorem dL_law_426 : decode cL_law 426 = .ok (.iload 8, 2) := by decide +kernel
theorem dL_law_428 : decode cL_law 428 = .ok (.iadd, 1) := by decide +kernel
theorem dL_law_429 : decode cL_law 429 = .ok (.iload_n 2, 1) := by decide +kernel
theorem dL_law_430 : decode cL_law 430 = .ok (.irem, 1) := by decide +kernel
theorem dL_law_431 : decode cL_law 431 = .ok (.iload 4, 2) := by decide +kernel
theorem dL_law_433 : decode cL_law 433 = .ok (.bipush 8, 2) := by decide +kernel
theorem dL_law_435 : decode cL_law 435 = .ok (.iconst 3, 1) := by decide +kernel
theorem dL_law_436 : decode cL_law 436 = .ok (.iload 8, 2) := by decide +kernel
theorem dL_law_438 : decode cL_law 438 = .ok (.imul, 1) := by decide +kernel
theorem dL_law_439 : decode cL_law 439 = .ok (.iadd, 1) := by decide +kernel
theorem dL_law_440 : decode cL_law 440 = .ok (.ishr, 1) := by decide +kernel
theorem dL_law_441 : decode cL_law 441 = .ok (.sipush 301, 3) := by decide +kernel
theorem dL_law_444 : decode cL_law 444 = .ok (.invokestatic 102, 3) := by decide +kernel
theorem dL_law_447 : decode cL_law 447 = .ok (.sipush 150, 3) := by decide +kernel
theorem dL_law_450 : decode cL_law 450 = .ok (.isub, 1) := by decide +kernel
theorem dL_law_451 : decode cL_law 451 = .ok (.invokevirtual 28, 3) := by decide +kernel
theorem dL_law_454 : decode cL_law 454 = .ok (.iload 9, 2) := by decide +kernel
theorem dL_law_456 : decode cL_law 456 = .ok (.if_icmp .ne 7, 3) := by decide +kernel
theorem dL_law_459 : decode cL_law 459 = .ok (.iconst 1, 1) := by decide +kernel
theorem dL_law_460 : decode cL_law 460 = .ok (.goto 4, 3) := by decide +kernel
theorem dL_law_463 : decode cL_law 463 = .ok (.iconst 0, 1) := by decide +kernel
theorem dL_law_464 : decode cL_law 464 = .ok (.istore 6, 2) := by decide +kernel
theorem dL_law_466 : decode cL_law 466 = .ok (.iinc 8 1, 3) := by decide +kernel
theorem dL_law_469 : decode cL_law 469 = .ok (.goto (-72), 3) := by decide +kernel
theorem dL_law_472 : decode cL_law 472 = .ok (.iload 6, 2) := by decide +kernel
theorem dL_law_474 : decode cL_law 474 = .ok (.ifCond .eq 26, 3) := by decide +kernel
theorem dL_law_477 : decode cL_law 477 = .ok (.aload_n 1, 1) := by decide +kernel
theorem dL_law_478 : decode cL_law 478 = .ok (.iload_n 2, 1) := by decide +kernel
theorem dL_law_479 : decode cL_law 479 = .ok (.iconst 1, 1) := by decide +kernel
theorem dL_law_480 : decode cL_law 480 = .ok (.iload 4, 2) := by decide +kernel
theorem dL_law_482 : decode cL_law 482 = .ok (.bipush 20, 2) := by decide +kernel
theorem dL_law_484 : decode cL_law 484 = .ok (.ishr, 1) := by decide +kernel
theorem dL_law_485 : decode cL_law 485 = .ok (.iconst 4, 1) := by decide +kernel
theorem dL_law_486 : decode cL_law 486 = .ok (.invokestatic 102, 3) := by decide +kernel
theorem dL_law_489 : decode cL_law 489 = .ok (.iadd, 1) := by decide +kernel
theorem dL_law_490 : decode cL_law 490 = .ok (.invokestatic 109, 3) := by decide +kernel
theorem dL_law_493 : decode cL_law 493 = .ok (.ifCond .eq 7, 3) := by decide +kernel
theorem dL_law_496 : decode cL_law 496 = .ok (.iconst 1, 1) := by decide +kernel
theorem dL_law_497 : decode cL_law 497 = .ok (.goto 4, 3) := by decide +kernel
theorem dL_law_500 : decode cL_law 500 = .ok (.iconst 0, 1) := by decide +kernel
theorem dL_law_501 : decode cL_law 501 = .ok (.istore 6, 2) := by decide +kernel
theorem dL_law_503 : decode cL_law 503 = .ok (.goto 221, 3) := by decide +kernel
theorem dL_law_506 : decode cL_law 506 = .ok (.iload 7, 2) := by decide +kernel
theorem dL_law_508 : decode cL_law 508 = .ok (.iconst 3, 1) := by decide +kernel
theorem dL_law_509 : decode cL_law 509 = .ok (.if_icmp .ne 25, 3) := by decide +kernel
theorem dL_law_512 : decode cL_law 512 = .ok (.aload_n 1, 1) := by decide +kernel
theorem dL_law_513 : decode cL_law 513 = .ok (.iload_n 2, 1) := by decide +kernel
theorem dL_law_514 : decode cL_law 514 = .ok (.iconst 1, 1) := by decide +kernel
theorem dL_law_515 : decode cL_law 515 = .ok (.iload 4, 2) := by decide +kernel
theorem dL_law_517 : decode cL_law 517 = .ok (.bipush 8, 2) := by decide +kernel
theorem dL_law_519 : decode cL_law 519 = .ok (.ishr, 1) := by decide +kernel
theorem dL_law_520 : decode cL_law 520 = .ok (.bipush 25, 2) := by decide +kernel
theorem dL_law_522 : decode cL_law 522 = .ok (.invokestatic 102, 3) := by decide +kernel
theorem dL_law_525 : decode cL_law 525 = .ok (.iadd, 1) := by decide +kernel
theorem dL_law_526 : decode cL_law 526 = .ok (.invokestatic 109, 3) := by decide +kernel
theorem dL_law_529 : decode cL_law 529 = .ok (.istore 6, 2) := by decide +kernel
theorem dL_law_531 : decode cL_law 531 = .ok (.goto 193, 3) := by decide +kernel
theorem dL_law_534 : decode cL_law 534 = .ok (.iload 7, 2) := by decide +kernel
theorem dL_law_536 : decode cL_law 536 = .ok (.bipush 6, 2) := by decide +kernel
theorem dL_law_538 : decode cL_law 538 = .ok (.if_icmp .ge 28, 3) := by decide +kernel
theorem dL_law_541 : decode cL_law 541 = .ok (.aload_n 1, 1) := by decide +kernel
theorem dL_law_542 : decode cL_law 542 = .ok (.iload 5, 2) := by decide +kernel
theorem dL_law_544 : decode cL_law 544 = .ok (.iload 4, 2) := by decide +kernel
theorem dL_law_546 : decode cL_law 546 = .ok (.sipush 256, 3) := by decide +kernel
theorem dL_law_549 : decode cL_law 549 = .ok (.iand, 1) := by decide +kernel
theorem dL_law_550 : decode cL_law 550 = .ok (.ifCond .eq 7, 3) := by decide +kernel
theorem dL_law_553 : decode cL_law 553 = .ok (.iconst 1, 1) := by decide +kernel
theorem dL_law_554 : decode cL_law 554 = .ok (.goto 4, 3) := by decide +kernel
theorem dL_law_557 : decode cL_law 557 = .ok (.iconst 0, 1) := by decide +kernel
theorem dL_law_558 : decode cL_law 558 = .ok (.invokestatic 113, 3) := by decide +kernel
theorem dL_law_561 : decode cL_law 561 = .ok (.istore 6, 2) := by decide +kernel
theorem dL_law_563 : decode cL_law 563 = .ok (.goto 161, 3) := by decide +kernel
theorem dL_law_566 : decode cL_law 566 = .ok (.iload 7, 2) := by decide +kernel
theorem dL_law_568 : decode cL_law 568 = .ok (.bipush 6, 2) := by decide +kernel
theorem dL_law_570 : decode cL_law 570 = .ok (.if_icmp .ne 26, 3) := by decide +kernel
theorem dL_law_573 : decode cL_law 573 = .ok (.aload_n 1, 1) := by decide +kernel
theorem dL_law_574 : decode cL_law 574 = .ok (.iload 5, 2) := by decide +kernel
theorem dL_law_576 : decode cL_law 576 = .ok (.iconst 1, 1) := by decide +kernel
theorem dL_law_577 : decode cL_law 577 = .ok (.iload 4, 2) := by decide +kernel
theorem dL_law_579 : decode cL_law 579 = .ok (.bipush 8, 2) := by decide +kernel
theorem dL_law_581 : decode cL_law 581 = .ok (.ishr, 1) := by decide +kernel
theorem dL_law_582 : decode cL_law 582 = .ok (.bipush 12, 2) := by decide +kernel
theorem dL_law_584 : decode cL_law 584 = .ok (.invokestatic 102, 3) := by decide +kernel
theorem dL_law_587 : decode cL_law 587 = .ok (.iadd, 1) := by decide +kernel
theorem dL_law_588 : decode cL_law 588 = .ok (.invokestatic 117, 3) := by decide +kernel
theorem dL_law_591 : decode cL_law 591 = .ok (.istore 6, 2) := by decide +kernel
theorem dL_law_593 : decode cL_law 593 = .ok (.goto 131, 3) := by decide +kernel
theorem dL_law_596 : decode cL_law 596 = .ok (.iload 7, 2) := by decide +kernel
theorem dL_law_598 : decode cL_law 598 = .ok (.bipush 7, 2) := by decide +kernel
theorem dL_law_600 : decode cL_law 600 = .ok (.if_icmp .ne 38, 3) := by decide +kernel
theorem dL_law_603 : decode cL_law 603 = .ok (.aload_n 1, 1) := by decide +kernel
theorem dL_law_604 : decode cL_law 604 = .ok (.iconst 1, 1) := by decide +kernel
theorem dL_law_605 : decode cL_law 605 = .ok (.invokevirtual 44, 3) := by decide +kernel
theorem dL_law_608 : decode cL_law 608 = .ok (.istore 8, 2) := by decide +kernel
theorem dL_law_610 : decode cL_law 610 = .ok (.aload_n 1, 1) := by decide +kernel
theorem dL_law_611 : decode cL_law 611 = .ok (.iload 4, 2) := by decide +kernel
theorem dL_law_613 : decode cL_law 613 = .ok (.bipush 8, 2) := by decide +kernel
theorem dL_law_615 : decode cL_law 615 = .ok (.ishr, 1) := by decide +kernel
theorem dL_law_616 : decode cL_law 616 = .ok (.iconst 4, 1) := by decide +kernel
theorem dL_law_617 : decode cL_law 617 = .ok (.invokestatic 102, 3) := by decide +kernel
theorem dL_law_620 : decode cL_law 620 = .ok (.invokevirtual 34, 3) := by decide +kernel
theorem dL_law_623 : decode cL_law 623 = .ok (.iload 8, 2) := by decide +kernel
theorem dL_law_625 : decode cL_law 625 = .ok (.if_icmp .ne 7, 3) := by decide +kernel
theorem dL_law_628 : decode cL_law 628 = .ok (.iconst 1, 1) := by decide +kernel
theorem dL_law_629 : decode cL_law 629 = .ok (.goto 4, 3) := by decide +kernel
theorem dL_law_632 : decode cL_law 632 = .ok (.iconst 0, 1) := by decide +kernel
theorem dL_law_633 : decode cL_law 633 = .ok (.istore 6, 2) := by decide +kernel
theorem dL_law_635 : decode cL_law 635 = .ok (.goto 89, 3) := by decide +kernel
theorem dL_law_638 : decode cL_law 638 = .ok (.aload_n 1, 1) := by decide +kernel
theorem dL_law_639 : decode cL_law 639 = .ok (.iload 5, 2) := by decide +kernel
theorem dL_law_641 : decode cL_law 641 = .ok (.iconst 5, 1) := by decide +kernel
theorem dL_law_642 : decode cL_law 642 = .ok (.invokevirtual 31, 3) := by decide +kernel
theorem dL_law_645 : decode cL_law 645 = .ok (.istore 8, 2) := by decide +kernel
theorem dL_law_647 : decode cL_law 647 = .ok (.aload_n 1, 1) := by decide +kernel
theorem dL_law_648 : decode cL_law 648 = .ok (.iload 5, 2) := by decide +kernel
theorem dL_law_650 : decode cL_law 650 = .ok (.bipush 13, 2) := by decide +kernel
theorem dL_law_652 : decode cL_law 652 = .ok (.invokevirtual 31, 3) := by decide +kernel
theorem dL_law_655 : decode cL_law 655 = .ok (.istore 9, 2) := by decide +kernel
theorem dL_law_657 : decode cL_law 657 = .ok (.aload_n 1, 1) := by decide +kernel
theorem dL_law_658 : decode cL_law 658 = .ok (.invokevirtual 65, 3) := by decide +kernel
theorem dL_law_661 : decode cL_law 661 = .ok (.istore 10, 2) := by decide +kernel
theorem dL_law_663 : decode cL_law 663 = .ok (.aload_n 1, 1) := by decide +kernel
theorem dL_law_664 : decode cL_law 664 = .ok (.iload 5, 2) := by decide +kernel
theorem dL_law_666 : decode cL_law 666 = .ok (.iconst 5, 1) := by decide +kernel
theorem dL_law_667 : decode cL_law 667 = .ok (.iconst 1, 1) := by decide +kernel
theorem dL_law_668 : decode cL_law 668 = .ok (.iload 4, 2) := by decide +kernel
theorem dL_law_670 : decode cL_law 670 = .ok (.bipush 8, 2) := by decide +kernel
theorem dL_law_672 : decode cL_law 672 = .ok (.ishr, 1) := by decide +kernel
theorem dL_law_673 : decode cL_law 673 = .ok (.iconst 4, 1) := by decide +kernel
theorem dL_law_674 : decode cL_law 674 = .ok (.invokestatic 102, 3) := by decide +kernel
theorem dL_law_677 : decode cL_law 677 = .ok (.iadd, 1) := by decide +kernel
theorem dL_law_678 : decode cL_law 678 = .ok (.invokevirtual 21, 3) := by decide +kernel
theorem dL_law_681 : decode cL_law 681 = .ok (.iload 8, 2) := by decide +kernel
theorem dL_law_683 : decode cL_law 683 = .ok (.if_icmp .ne 38, 3) := by decide +kernel
theorem dL_law_686 : decode cL_law 686 = .ok (.aload_n 1, 1) := by decide +kernel
theorem dL_law_687 : decode cL_law 687 = .ok (.invokevirtual 65, 3) := by decide +kernel
theorem dL_law_690 : decode cL_law 690 = .ok (.iload 10, 2) := by decide +kernel
theorem dL_law_692 : decode cL_law 692 = .ok (.iload 9, 2) := by decide +kernel
theorem dL_law_694 : decode cL_law 694 = .ok (.ifCond .le 18, 3) := by decide +kernel
theorem dL_law_697 : decode cL_law 697 = .ok (.aload_n 1, 1) := by decide +kernel
theorem dL_law_698 : decode cL_law 698 = .ok (.iload 5, 2) := by decide +kernel
theorem dL_law_700 : decode cL_law 700 = .ok (.iconst 5, 1) := by decide +kernel
theorem dL_law_701 : decode cL_law 701 = .ok (.invokevirtual 31, 3) := by decide +kernel
theorem dL_law_704 : decode cL_law 704 = .ok (.iconst 1, 1) := by decide +kernel
theorem dL_law_705 : decode cL_law 705 = .ok (.if_icmp .ne 7, 3) := by decide +kernel
theorem dL_law_708 : decode cL_law 708 = .ok (.iconst 1, 1) := by decide +kernel
theorem dL_law_709 : decode cL_law 709 = .ok (.goto 4, 3) := by decide +kernel
theorem dL_law_712 : decode cL_law 712 = .ok (.iconst 0, 1) := by decide +kernel
theorem dL_law_713 : decode cL_law 713 = .ok (.iadd, 1) := by decide +kernel
theorem dL_law_714 : decode cL_law 714 = .ok (.if_icmp .ne 7, 3) := by decide +kernel
theorem dL_law_717 : decode cL_law 717 = .ok (.iconst 1, 1) := by decide +kernel
theorem dL_law_718 : decode cL_law 718 = .ok (.goto 4, 3) := by decide +kernel
theorem dL_law_721 : decode cL_law 721 = .ok (.iconst 0, 1) := by decide +kernel
theorem dL_law_722 : decode cL_law 722 = .ok (.istore 6, 2) := by decide +kernel
theorem dL_law_724 : decode cL_law 724 = .ok (.iload 6, 2) := by decide +kernel
theorem dL_law_726 : decode cL_law 726 = .ok (.ifCond .eq 11, 3) := by decide +kernel
theorem dL_law_729 : decode cL_law 729 = .ok (.aload_n 1, 1) := by decide +kernel
theorem dL_law_730 : decode cL_law 730 = .ok (.iload_n 2, 1) := by decide +kernel
theorem dL_law_731 : decode cL_law 731 = .ok (.invokestatic 120, 3) := by decide +kernel
theorem dL_law_734 : decode cL_law 734 = .ok (.ifCond .ne 5, 3) := by decide +kernel
theorem dL_law_737 : decode cL_law 737 = .ok (.iconst 0, 1) := by decide +kernel
theorem dL_law_738 : decode cL_law 738 = .ok (.ireturn, 1) := by decide +kernel
theorem dL_law_739 : decode cL_law 739 = .ok (.iinc 3 1, 3) := by decide +kernel
theorem dL_law_742 : decode cL_law 742 = .ok (.goto (-392), 3) := by decide +kernel
theorem dL_law_745 : decode cL_law 745 = .ok (.aload_n 1, 1) := by decide +kernel
theorem dL_law_746 : decode cL_law 746 = .ok (.iload_n 2, 1) := by decide +kernel
theorem dL_law_747 : decode cL_law 747 = .ok (.invokestatic 105, 3) := by decide +kernel
theorem dL_law_750 : decode cL_law 750 = .ok (.ireturn, 1) := by decide +kernel
theorem dJ9_floorMod_7cf53_0 : decode cJ9_floorMod_7cf53 0 = .ok (.iload_n 0, 1) := by decide +kernel
theorem dJ9_floorMod_7cf53_1 : decode cJ9_floorMod_7cf53 1 = .ok (.iload_n 1, 1) := by decide +kernel
theorem dJ9_floorMod_7cf53_2 : decode cJ9_floorMod_7cf53 2 = .ok (.irem, 1) := by decide +kernel
theorem dJ9_floorMod_7cf53_3 : decode cJ9_floorMod_7cf53 3 = .ok (.istore_n 2, 1) := by decide +kernel
theorem dJ9_floorMod_7cf53_4 : decode cJ9_floorMod_7cf53 4 = .ok (.iload_n 0, 1) := by decide +kernel
theorem dJ9_floorMod_7cf53_5 : decode cJ9_floorMod_7cf53 5 = .ok (.iload_n 1, 1) := by decide +kernel
theorem dJ9_floorMod_7cf53_6 : decode cJ9_floorMod_7cf53 6 = .ok (.ixor, 1) := by decide +kernel
theorem dJ9_floorMod_7cf53_7 : decode cJ9_floorMod_7cf53 7 = .ok (.ifCond .ge 11, 3) := by decide +kernel
theorem dJ9_floorMod_7cf53_10 : decode cJ9_floorMod_7cf53 10 = .ok (.iload_n 2, 1) := by decide +kernel
theorem dJ9_floorMod_7cf53_11 : decode cJ9_floorMod_7cf53 11 = .ok (.ifCond .eq 7, 3) := by decide +kernel
theorem dJ9_floorMod_7cf53_14 : decode cJ9_floorMod_7cf53 14 = .ok (.iload_n 2, 1) := by decide +kernel
theorem dJ9_floorMod_7cf53_15 : decode cJ9_floorMod_7cf53 15 = .ok (.iload_n 1, 1) := by decide +kernel
theorem dJ9_floorMod_7cf53_16 : decode cJ9_floorMod_7cf53 16 = .ok (.iadd, 1) := by decide +kernel
theorem dJ9_floorMod_7cf53_17 : decode cJ9_floorMod_7cf53 17 = .ok (.ireturn, 1) := by decide +kernel
theorem dJ9_floorMod_7cf53_18 : decode cJ9_floorMod_7cf53 18 = .ok (.iload_n 2, 1) := by decide +kernel
theorem dJ9_floorMod_7cf53_19 : decode cJ9_floorMod_7cf53 19 = .ok (.ireturn, 1) := by decide +kernel
theorem dJ9_min_7cf53_0 : decode cJ9_min_7cf53 0 = .ok (.iload_n 0, 1) := by decide +kernel
theorem dJ9_min_7cf53_1 : decode cJ9_min_7cf53 1 = .ok (.iload_n 1, 1) := by decide +kernel
theorem dJ9_min_7cf53_2 : decode cJ9_min_7cf53 2 = .ok (.if_icmp .gt 7, 3) := by decide +kernel
theorem dJ9_min_7cf53_5 : decode cJ9_min_7cf53 5 = .ok (.iload_n 0, 1) := by decide +kernel
theorem dJ9_min_7cf53_6 : decode cJ9_min_7cf53 6 = .ok (.goto 4, 3) := by decide +kernel
theorem dJ9_min_7cf53_9 : decode cJ9_min_7cf53 9 = .ok (.iload_n 1, 1) := by decide +kernel
theorem dJ9_min_7cf53_10 : decode cJ9_min_7cf53 10 = .ok (.ireturn, 1) := by decide +kernel
