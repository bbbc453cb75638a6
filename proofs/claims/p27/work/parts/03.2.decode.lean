theorem dL_drive_216 : decode cL_drive 216 = .ok (.aload_n 0, 1) := by decide +kernel
theorem dL_drive_217 : decode cL_drive 217 = .ok (.iconst 0, 1) := by decide +kernel
theorem dL_drive_218 : decode cL_drive 218 = .ok (.invokevirtual 18, 3) := by decide +kernel
theorem dL_drive_221 : decode cL_drive 221 = .ok (.if_icmp .lt 7, 3) := by decide +kernel
theorem dL_drive_224 : decode cL_drive 224 = .ok (.iconst 1, 1) := by decide +kernel
theorem dL_drive_225 : decode cL_drive 225 = .ok (.goto 4, 3) := by decide +kernel
theorem dL_drive_228 : decode cL_drive 228 = .ok (.iconst 0, 1) := by decide +kernel
theorem dL_drive_229 : decode cL_drive 229 = .ok (.istore_n 2, 1) := by decide +kernel
theorem dL_drive_230 : decode cL_drive 230 = .ok (.iinc 7 1, 3) := by decide +kernel
theorem dL_drive_233 : decode cL_drive 233 = .ok (.goto (-161), 3) := by decide +kernel
theorem dL_drive_236 : decode cL_drive 236 = .ok (.iload_n 2, 1) := by decide +kernel
theorem dL_drive_237 : decode cL_drive 237 = .ok (.ifCond .eq 52, 3) := by decide +kernel
theorem dL_drive_240 : decode cL_drive 240 = .ok (.aload_n 0, 1) := by decide +kernel
theorem dL_drive_241 : decode cL_drive 241 = .ok (.iload_n 1, 1) := by decide +kernel
theorem dL_drive_242 : decode cL_drive 242 = .ok (.bipush 9, 2) := by decide +kernel
theorem dL_drive_244 : decode cL_drive 244 = .ok (.invokevirtual 9, 3) := by decide +kernel
theorem dL_drive_247 : decode cL_drive 247 = .ok (.iload_n 3, 1) := by decide +kernel
theorem dL_drive_248 : decode cL_drive 248 = .ok (.if_icmp .ne 41, 3) := by decide +kernel
theorem dL_drive_251 : decode cL_drive 251 = .ok (.aload_n 0, 1) := by decide +kernel
theorem dL_drive_252 : decode cL_drive 252 = .ok (.iload_n 1, 1) := by decide +kernel
theorem dL_drive_253 : decode cL_drive 253 = .ok (.bipush 10, 2) := by decide +kernel
theorem dL_drive_255 : decode cL_drive 255 = .ok (.invokevirtual 9, 3) := by decide +kernel
theorem dL_drive_258 : decode cL_drive 258 = .ok (.iload 4, 2) := by decide +kernel
theorem dL_drive_260 : decode cL_drive 260 = .ok (.if_icmp .ne 29, 3) := by decide +kernel
theorem dL_drive_263 : decode cL_drive 263 = .ok (.aload_n 0, 1) := by decide +kernel
theorem dL_drive_264 : decode cL_drive 264 = .ok (.iload_n 1, 1) := by decide +kernel
theorem dL_drive_265 : decode cL_drive 265 = .ok (.bipush 11, 2) := by decide +kernel
theorem dL_drive_267 : decode cL_drive 267 = .ok (.invokevirtual 9, 3) := by decide +kernel
theorem dL_drive_270 : decode cL_drive 270 = .ok (.iload 5, 2) := by decide +kernel
theorem dL_drive_272 : decode cL_drive 272 = .ok (.if_icmp .ne 17, 3) := by decide +kernel
theorem dL_drive_275 : decode cL_drive 275 = .ok (.aload_n 0, 1) := by decide +kernel
theorem dL_drive_276 : decode cL_drive 276 = .ok (.iload_n 1, 1) := by decide +kernel
theorem dL_drive_277 : decode cL_drive 277 = .ok (.invokevirtual 22, 3) := by decide +kernel
theorem dL_drive_280 : decode cL_drive 280 = .ok (.iload 6, 2) := by decide +kernel
theorem dL_drive_282 : decode cL_drive 282 = .ok (.if_icmp .ne 7, 3) := by decide +kernel
theorem dL_drive_285 : decode cL_drive 285 = .ok (.iconst 1, 1) := by decide +kernel
theorem dL_drive_286 : decode cL_drive 286 = .ok (.goto 4, 3) := by decide +kernel
theorem dL_drive_289 : decode cL_drive 289 = .ok (.iconst 0, 1) := by decide +kernel
theorem dL_drive_290 : decode cL_drive 290 = .ok (.istore_n 2, 1) := by decide +kernel
theorem dL_drive_291 : decode cL_drive 291 = .ok (.iload_n 2, 1) := by decide +kernel
theorem dL_drive_292 : decode cL_drive 292 = .ok (.ifCond .eq 58, 3) := by decide +kernel
theorem dL_drive_295 : decode cL_drive 295 = .ok (.aload_n 0, 1) := by decide +kernel
theorem dL_drive_296 : decode cL_drive 296 = .ok (.iload_n 1, 1) := by decide +kernel
theorem dL_drive_297 : decode cL_drive 297 = .ok (.iconst 4, 1) := by decide +kernel
theorem dL_drive_298 : decode cL_drive 298 = .ok (.invokevirtual 9, 3) := by decide +kernel
theorem dL_drive_301 : decode cL_drive 301 = .ok (.aload_n 0, 1) := by decide +kernel
theorem dL_drive_302 : decode cL_drive 302 = .ok (.iconst 1, 1) := by decide +kernel
theorem dL_drive_303 : decode cL_drive 303 = .ok (.invokevirtual 18, 3) := by decide +kernel
theorem dL_drive_306 : decode cL_drive 306 = .ok (.bipush 100, 2) := by decide +kernel
theorem dL_drive_308 : decode cL_drive 308 = .ok (.if_icmp .ge 34, 3) := by decide +kernel
theorem dL_drive_311 : decode cL_drive 311 = .ok (.aload_n 0, 1) := by decide +kernel
theorem dL_drive_312 : decode cL_drive 312 = .ok (.iload_n 1, 1) := by decide +kernel
theorem dL_drive_313 : decode cL_drive 313 = .ok (.aload_n 0, 1) := by decide +kernel
theorem dL_drive_314 : decode cL_drive 314 = .ok (.iconst 1, 1) := by decide +kernel
theorem dL_drive_315 : decode cL_drive 315 = .ok (.invokevirtual 18, 3) := by decide +kernel
theorem dL_drive_318 : decode cL_drive 318 = .ok (.bipush 100, 2) := by decide +kernel
theorem dL_drive_320 : decode cL_drive 320 = .ok (.if_icmp .ge 11, 3) := by decide +kernel
theorem dL_drive_323 : decode cL_drive 323 = .ok (.aload_n 0, 1) := by decide +kernel
theorem dL_drive_324 : decode cL_drive 324 = .ok (.iconst 1, 1) := by decide +kernel
theorem dL_drive_325 : decode cL_drive 325 = .ok (.invokevirtual 18, 3) := by decide +kernel
theorem dL_drive_328 : decode cL_drive 328 = .ok (.goto 4, 3) := by decide +kernel
theorem dL_drive_331 : decode cL_drive 331 = .ok (.iconst 0, 1) := by decide +kernel
theorem dL_drive_332 : decode cL_drive 332 = .ok (.invokevirtual 15, 3) := by decide +kernel
theorem dL_drive_335 : decode cL_drive 335 = .ok (.ifCond .le 7, 3) := by decide +kernel
theorem dL_drive_338 : decode cL_drive 338 = .ok (.iconst 1, 1) := by decide +kernel
theorem dL_drive_339 : decode cL_drive 339 = .ok (.goto 4, 3) := by decide +kernel
theorem dL_drive_342 : decode cL_drive 342 = .ok (.iconst 0, 1) := by decide +kernel
theorem dL_drive_343 : decode cL_drive 343 = .ok (.if_icmp .ne 7, 3) := by decide +kernel
theorem dL_drive_346 : decode cL_drive 346 = .ok (.iconst 1, 1) := by decide +kernel
theorem dL_drive_347 : decode cL_drive 347 = .ok (.goto 4, 3) := by decide +kernel
theorem dL_drive_350 : decode cL_drive 350 = .ok (.iconst 0, 1) := by decide +kernel
theorem dL_drive_351 : decode cL_drive 351 = .ok (.istore_n 2, 1) := by decide +kernel
theorem dL_drive_352 : decode cL_drive 352 = .ok (.iload_n 2, 1) := by decide +kernel
theorem dL_drive_353 : decode cL_drive 353 = .ok (.ifCond .eq 51, 3) := by decide +kernel
theorem dL_drive_356 : decode cL_drive 356 = .ok (.aload_n 0, 1) := by decide +kernel
theorem dL_drive_357 : decode cL_drive 357 = .ok (.iload_n 1, 1) := by decide +kernel
theorem dL_drive_358 : decode cL_drive 358 = .ok (.bipush 8, 2) := by decide +kernel
theorem dL_drive_360 : decode cL_drive 360 = .ok (.invokevirtual 9, 3) := by decide +kernel
theorem dL_drive_363 : decode cL_drive 363 = .ok (.aload_n 0, 1) := by decide +kernel
theorem dL_drive_364 : decode cL_drive 364 = .ok (.iload_n 1, 1) := by decide +kernel
theorem dL_drive_365 : decode cL_drive 365 = .ok (.bipush 7, 2) := by decide +kernel
theorem dL_drive_367 : decode cL_drive 367 = .ok (.invokevirtual 9, 3) := by decide +kernel
theorem dL_drive_370 : decode cL_drive 370 = .ok (.if_icmp .gt 34, 3) := by decide +kernel
theorem dL_drive_373 : decode cL_drive 373 = .ok (.aload_n 0, 1) := by decide +kernel
theorem dL_drive_374 : decode cL_drive 374 = .ok (.iload_n 1, 1) := by decide +kernel
theorem dL_drive_375 : decode cL_drive 375 = .ok (.bipush 7, 2) := by decide +kernel
theorem dL_drive_377 : decode cL_drive 377 = .ok (.invokevirtual 9, 3) := by decide +kernel
theorem dL_drive_380 : decode cL_drive 380 = .ok (.aload_n 0, 1) := by decide +kernel
theorem dL_drive_381 : decode cL_drive 381 = .ok (.iconst 0, 1) := by decide +kernel
theorem dL_drive_382 : decode cL_drive 382 = .ok (.invokevirtual 18, 3) := by decide +kernel
theorem dL_drive_385 : decode cL_drive 385 = .ok (.if_icmp .gt 19, 3) := by decide +kernel
theorem dL_drive_388 : decode cL_drive 388 = .ok (.iload 5, 2) := by decide +kernel
theorem dL_drive_390 : decode cL_drive 390 = .ok (.aload_n 0, 1) := by decide +kernel
theorem dL_drive_391 : decode cL_drive 391 = .ok (.iload_n 1, 1) := by decide +kernel
theorem dL_drive_392 : decode cL_drive 392 = .ok (.bipush 8, 2) := by decide +kernel
theorem dL_drive_394 : decode cL_drive 394 = .ok (.invokevirtual 9, 3) := by decide +kernel
theorem dL_drive_397 : decode cL_drive 397 = .ok (.if_icmp .gt 7, 3) := by decide +kernel
theorem dL_drive_400 : decode cL_drive 400 = .ok (.iconst 1, 1) := by decide +kernel
theorem dL_drive_401 : decode cL_drive 401 = .ok (.goto 4, 3) := by decide +kernel
theorem dL_drive_404 : decode cL_drive 404 = .ok (.iconst 0, 1) := by decide +kernel
theorem dL_drive_405 : decode cL_drive 405 = .ok (.istore_n 2, 1) := by decide +kernel
theorem dL_drive_406 : decode cL_drive 406 = .ok (.iload_n 2, 1) := by decide +kernel
theorem dL_drive_407 : decode cL_drive 407 = .ok (.ifCond .eq 48, 3) := by decide +kernel
theorem dL_drive_410 : decode cL_drive 410 = .ok (.aload_n 0, 1) := by decide +kernel
theorem dL_drive_411 : decode cL_drive 411 = .ok (.iload_n 1, 1) := by decide +kernel
theorem dL_drive_412 : decode cL_drive 412 = .ok (.invokevirtual 25, 3) := by decide +kernel
theorem dL_drive_415 : decode cL_drive 415 = .ok (.bipush (-6), 2) := by decide +kernel
theorem dL_drive_417 : decode cL_drive 417 = .ok (.if_icmp .ne 7, 3) := by decide +kernel
theorem dL_drive_420 : decode cL_drive 420 = .ok (.iconst 1, 1) := by decide +kernel
theorem dL_drive_421 : decode cL_drive 421 = .ok (.goto 4, 3) := by decide +kernel
theorem dL_drive_424 : decode cL_drive 424 = .ok (.iconst 0, 1) := by decide +kernel
theorem dL_drive_425 : decode cL_drive 425 = .ok (.iload 4, 2) := by decide +kernel
theorem dL_drive_427 : decode cL_drive 427 = .ok (.iload 5, 2) := by decide +kernel
theorem dL_drive_429 : decode cL_drive 429 = .ok (.iadd, 1) := by decide +kernel
theorem dL_drive_430 : decode cL_drive 430 = .ok (.ifCond .ne 7, 3) := by decide +kernel
theorem dL_drive_433 : decode cL_drive 433 = .ok (.iconst 1, 1) := by decide +kernel
theorem dL_drive_434 : decode cL_drive 434 = .ok (.goto 4, 3) := by decide +kernel
theorem dL_drive_437 : decode cL_drive 437 = .ok (.iconst 0, 1) := by decide +kernel
theorem dL_drive_438 : decode cL_drive 438 = .ok (.if_icmp .ne 17, 3) := by decide +kernel
theorem dL_drive_441 : decode cL_drive 441 = .ok (.aload_n 0, 1) := by decide +kernel
theorem dL_drive_442 : decode cL_drive 442 = .ok (.iload_n 1, 1) := by decide +kernel
theorem dL_drive_443 : decode cL_drive 443 = .ok (.invokevirtual 22, 3) := by decide +kernel
theorem dL_drive_446 : decode cL_drive 446 = .ok (.iload 4, 2) := by decide +kernel
theorem dL_drive_448 : decode cL_drive 448 = .ok (.if_icmp .gt 7, 3) := by decide +kernel
theorem dL_drive_451 : decode cL_drive 451 = .ok (.iconst 1, 1) := by decide +kernel
theorem dL_drive_452 : decode cL_drive 452 = .ok (.goto 4, 3) := by decide +kernel
theorem dL_drive_455 : decode cL_drive 455 = .ok (.iconst 0, 1) := by decide +kernel
theorem dL_drive_456 : decode cL_drive 456 = .ok (.ireturn, 1) := by decide +kernel
theorem dL_act_0 : decode cL_act 0 = .ok (.aload_n 1, 1) := by decide +kernel
theorem dL_act_1 : decode cL_act 1 = .ok (.iload_n 2, 1) := by decide +kernel
theorem dL_act_2 : decode cL_act 2 = .ok (.iconst 1, 1) := by decide +kernel
theorem dL_act_3 : decode cL_act 3 = .ok (.iadd, 1) := by decide +kernel
theorem dL_act_4 : decode cL_act 4 = .ok (.invokestatic 28, 3) := by decide +kernel
theorem dL_act_7 : decode cL_act 7 = .ok (.iconst 4, 1) := by decide +kernel
theorem dL_act_8 : decode cL_act 8 = .ok (.invokestatic 34, 3) := by decide +kernel
theorem dL_act_11 : decode cL_act 11 = .ok (.istore_n 3, 1) := by decide +kernel
theorem dL_act_12 : decode cL_act 12 = .ok (.aload_n 1, 1) := by decide +kernel
theorem dL_act_13 : decode cL_act 13 = .ok (.iload_n 2, 1) := by decide +kernel
theorem dL_act_14 : decode cL_act 14 = .ok (.iconst 2, 1) := by decide +kernel
theorem dL_act_15 : decode cL_act 15 = .ok (.iadd, 1) := by decide +kernel
theorem dL_act_16 : decode cL_act 16 = .ok (.invokestatic 28, 3) := by decide +kernel
theorem dL_act_19 : decode cL_act 19 = .ok (.istore 4, 2) := by decide +kernel
theorem dL_act_21 : decode cL_act 21 = .ok (.aload_n 1, 1) := by decide +kernel
theorem dL_act_22 : decode cL_act 22 = .ok (.iload_n 2, 1) := by decide +kernel
theorem dL_act_23 : decode cL_act 23 = .ok (.invokestatic 28, 3) := by decide +kernel
theorem dL_act_26 : decode cL_act 26 = .ok (.bipush 6, 2) := by decide +kernel
theorem dL_act_28 : decode cL_act 28 = .ok (.invokestatic 34, 3) := by decide +kernel
theorem dL_act_31 : decode cL_act 31 = .ok (.tableswitch 119 0 3 #[29, 47, 65, 92], 29) := by decide +kernel
theorem dL_act_60 : decode cL_act 60 = .ok (.aload_n 0, 1) := by decide +kernel
theorem dL_act_61 : decode cL_act 61 = .ok (.iload_n 3, 1) := by decide +kernel
theorem dL_act_62 : decode cL_act 62 = .ok (.aload_n 0, 1) := by decide +kernel
theorem dL_act_63 : decode cL_act 63 = .ok (.iconst 1, 1) := by decide +kernel
theorem dL_act_64 : decode cL_act 64 = .ok (.invokevirtual 18, 3) := by decide +kernel
theorem dL_act_67 : decode cL_act 67 = .ok (.iload 4, 2) := by decide +kernel
theorem dL_act_69 : decode cL_act 69 = .ok (.iconst 3, 1) := by decide +kernel
theorem dL_act_70 : decode cL_act 70 = .ok (.invokestatic 34, 3) := by decide +kernel
theorem dL_act_73 : decode cL_act 73 = .ok (.iadd, 1) := by decide +kernel
theorem dL_act_74 : decode cL_act 74 = .ok (.invokevirtual 37, 3) := by decide +kernel
theorem dL_act_77 : decode cL_act 77 = .ok (.ireturn, 1) := by decide +kernel
theorem dL_act_78 : decode cL_act 78 = .ok (.aload_n 0, 1) := by decide +kernel
theorem dL_act_79 : decode cL_act 79 = .ok (.iload_n 3, 1) := by decide +kernel
theorem dL_act_80 : decode cL_act 80 = .ok (.aload_n 0, 1) := by decide +kernel
theorem dL_act_81 : decode cL_act 81 = .ok (.iconst 1, 1) := by decide +kernel
theorem dL_act_82 : decode cL_act 82 = .ok (.invokevirtual 18, 3) := by decide +kernel
theorem dL_act_85 : decode cL_act 85 = .ok (.iload 4, 2) := by decide +kernel
theorem dL_act_87 : decode cL_act 87 = .ok (.iconst 3, 1) := by decide +kernel
theorem dL_act_88 : decode cL_act 88 = .ok (.invokestatic 34, 3) := by decide +kernel
theorem dL_act_91 : decode cL_act 91 = .ok (.iadd, 1) := by decide +kernel
theorem dL_act_92 : decode cL_act 92 = .ok (.invokevirtual 40, 3) := by decide +kernel
theorem dL_act_95 : decode cL_act 95 = .ok (.ireturn, 1) := by decide +kernel
theorem dL_act_96 : decode cL_act 96 = .ok (.aload_n 0, 1) := by decide +kernel
theorem dL_act_97 : decode cL_act 97 = .ok (.iload_n 3, 1) := by decide +kernel
theorem dL_act_98 : decode cL_act 98 = .ok (.iconst 1, 1) := by decide +kernel
theorem dL_act_99 : decode cL_act 99 = .ok (.iload 4, 2) := by decide +kernel
theorem dL_act_101 : decode cL_act 101 = .ok (.bipush 9, 2) := by decide +kernel
theorem dL_act_103 : decode cL_act 103 = .ok (.invokestatic 34, 3) := by decide +kernel
theorem dL_act_106 : decode cL_act 106 = .ok (.iadd, 1) := by decide +kernel
theorem dL_act_107 : decode cL_act 107 = .ok (.aload_n 1, 1) := by decide +kernel
theorem dL_act_108 : decode cL_act 108 = .ok (.iload_n 2, 1) := by decide +kernel
theorem dL_act_109 : decode cL_act 109 = .ok (.iconst 3, 1) := by decide +kernel
theorem dL_act_110 : decode cL_act 110 = .ok (.iadd, 1) := by decide +kernel
theorem dL_act_111 : decode cL_act 111 = .ok (.invokestatic 28, 3) := by decide +kernel
theorem dL_act_114 : decode cL_act 114 = .ok (.bipush 8, 2) := by decide +kernel
theorem dL_act_116 : decode cL_act 116 = .ok (.invokestatic 34, 3) := by decide +kernel
theorem dL_act_119 : decode cL_act 119 = .ok (.invokevirtual 43, 3) := by decide +kernel
theorem dL_act_122 : decode cL_act 122 = .ok (.ireturn, 1) := by decide +kernel
theorem dL_act_123 : decode cL_act 123 = .ok (.aload_n 0, 1) := by decide +kernel
theorem dL_act_124 : decode cL_act 124 = .ok (.iconst 3, 1) := by decide +kernel
theorem dL_act_125 : decode cL_act 125 = .ok (.iload 4, 2) := by decide +kernel
theorem dL_act_127 : decode cL_act 127 = .ok (.iconst 4, 1) := by decide +kernel
theorem dL_act_128 : decode cL_act 128 = .ok (.invokestatic 34, 3) := by decide +kernel
theorem dL_act_131 : decode cL_act 131 = .ok (.iadd, 1) := by decide +kernel
theorem dL_act_132 : decode cL_act 132 = .ok (.iconst 1, 1) := by decide +kernel
theorem dL_act_133 : decode cL_act 133 = .ok (.aload_n 1, 1) := by decide +kernel
theorem dL_act_134 : decode cL_act 134 = .ok (.iload_n 2, 1) := by decide +kernel
theorem dL_act_135 : decode cL_act 135 = .ok (.iconst 3, 1) := by decide +kernel
theorem dL_act_136 : decode cL_act 136 = .ok (.iadd, 1) := by decide +kernel
theorem dL_act_137 : decode cL_act 137 = .ok (.invokestatic 28, 3) := by decide +kernel
theorem dL_act_140 : decode cL_act 140 = .ok (.bipush 20, 2) := by decide +kernel
theorem dL_act_142 : decode cL_act 142 = .ok (.invokestatic 34, 3) := by decide +kernel
theorem dL_act_145 : decode cL_act 145 = .ok (.iadd, 1) := by decide +kernel
theorem dL_act_146 : decode cL_act 146 = .ok (.invokevirtual 47, 3) := by decide +kernel
theorem dL_act_149 : decode cL_act 149 = .ok (.ireturn, 1) := by decide +kernel
theorem dL_act_150 : decode cL_act 150 = .ok (.aload_n 0, 1) := by decide +kernel
theorem dL_act_151 : decode cL_act 151 = .ok (.iload_n 3, 1) := by decide +kernel
theorem dL_act_152 : decode cL_act 152 = .ok (.iconst 1, 1) := by decide +kernel
theorem dL_act_153 : decode cL_act 153 = .ok (.iload 4, 2) := by decide +kernel
theorem dL_act_155 : decode cL_act 155 = .ok (.bipush 70, 2) := by decide +kernel
theorem dL_act_157 : decode cL_act 157 = .ok (.invokestatic 34, 3) := by decide +kernel
theorem dL_act_160 : decode cL_act 160 = .ok (.iadd, 1) := by decide +kernel
theorem dL_act_161 : decode cL_act 161 = .ok (.invokevirtual 50, 3) := by decide +kernel
theorem dL_act_164 : decode cL_act 164 = .ok (.ireturn, 1) := by decide +kernel
theorem dL_law_0 : decode cL_law 0 = .ok (.new 10, 3) := by decide +kernel
theorem dL_law_3 : decode cL_law 3 = .ok (.dup, 1) := by decide +kernel
theorem dL_law_4 : decode cL_law 4 = .ok (.invokespecial 53, 3) := by decide +kernel
theorem dL_law_7 : decode cL_law 7 = .ok (.astore_n 1, 1) := by decide +kernel
theorem dL_law_8 : decode cL_law 8 = .ok (.iconst 1, 1) := by decide +kernel
theorem dL_law_9 : decode cL_law 9 = .ok (.istore_n 2, 1) := by decide +kernel
theorem dL_law_10 : decode cL_law 10 = .ok (.iconst 0, 1) := by decide +kernel
theorem dL_law_11 : decode cL_law 11 = .ok (.istore_n 3, 1) := by decide +kernel
theorem dL_law_12 : decode cL_law 12 = .ok (.aload_n 0, 1) := by decide +kernel
theorem dL_law_13 : decode cL_law 13 = .ok (.arraylength, 1) := by decide +kernel
theorem dL_law_14 : decode cL_law 14 = .ok (.iconst 4, 1) := by decide +kernel
theorem dL_law_15 : decode cL_law 15 = .ok (.idiv, 1) := by decide +kernel
theorem dL_law_16 : decode cL_law 16 = .ok (.bipush 14, 2) := by decide +kernel
theorem dL_law_18 : decode cL_law 18 = .ok (.if_icmp .le 8, 3) := by decide +kernel
theorem dL_law_21 : decode cL_law 21 = .ok (.bipush 14, 2) := by decide +kernel
theorem dL_law_23 : decode cL_law 23 = .ok (.goto 7, 3) := by decide +kernel
theorem dL_law_26 : decode cL_law 26 = .ok (.aload_n 0, 1) := by decide +kernel
theorem dL_law_27 : decode cL_law 27 = .ok (.arraylength, 1) := by decide +kernel
theorem dL_law_28 : decode cL_law 28 = .ok (.iconst 4, 1) := by decide +kernel
theorem dL_law_29 : decode cL_law 29 = .ok (.idiv, 1) := by decide +kernel
theorem dL_law_30 : decode cL_law 30 = .ok (.istore 4, 2) := by decide +kernel
theorem dL_law_32 : decode cL_law 32 = .ok (.iconst 0, 1) := by decide +kernel
theorem dL_law_33 : decode cL_law 33 = .ok (.istore 5, 2) := by decide +kernel
theorem dL_law_35 : decode cL_law 35 = .ok (.iload 5, 2) := by decide +kernel
theorem dL_law_37 : decode cL_law 37 = .ok (.iload 4, 2) := by decide +kernel
theorem dL_law_39 : decode cL_law 39 = .ok (.if_icmp .ge 443, 3) := by decide +kernel
theorem dL_law_42 : decode cL_law 42 = .ok (.iload_n 2, 1) := by decide +kernel
theorem dL_law_43 : decode cL_law 43 = .ok (.ifCond .eq 439, 3) := by decide +kernel
theorem dL_law_46 : decode cL_law 46 = .ok (.aload_n 1, 1) := by decide +kernel
theorem dL_law_47 : decode cL_law 47 = .ok (.iconst 0, 1) := by decide +kernel
theorem dL_law_48 : decode cL_law 48 = .ok (.iconst 3, 1) := by decide +kernel
theorem dL_law_49 : decode cL_law 49 = .ok (.invokevirtual 9, 3) := by decide +kernel
theorem dL_law_52 : decode cL_law 52 = .ok (.aload_n 1, 1) := by decide +kernel
theorem dL_law_53 : decode cL_law 53 = .ok (.iconst 1, 1) := by decide +kernel
theorem dL_law_54 : decode cL_law 54 = .ok (.iconst 3, 1) := by decide +kernel
theorem dL_law_55 : decode cL_law 55 = .ok (.invokevirtual 9, 3) := by decide +kernel
theorem dL_law_58 : decode cL_law 58 = .ok (.iadd, 1) := by decide +kernel
theorem dL_law_59 : decode cL_law 59 = .ok (.aload_n 1, 1) := by decide +kernel
theorem dL_law_60 : decode cL_law 60 = .ok (.iconst 2, 1) := by decide +kernel
theorem dL_law_61 : decode cL_law 61 = .ok (.iconst 3, 1) := by decide +kernel
theorem dL_law_62 : decode cL_law 62 = .ok (.invokevirtual 9, 3) := by decide +kernel
theorem dL_law_65 : decode cL_law 65 = .ok (.iadd, 1) := by decide +kernel
theorem dL_law_66 : decode cL_law 66 = .ok (.aload_n 1, 1) := by decide +kernel
theorem dL_law_67 : decode cL_law 67 = .ok (.iconst 3, 1) := by decide +kernel
theorem dL_law_68 : decode cL_law 68 = .ok (.iconst 3, 1) := by decide +kernel
theorem dL_law_69 : decode cL_law 69 = .ok (.invokevirtual 9, 3) := by decide +kernel
theorem dL_law_72 : decode cL_law 72 = .ok (.iadd, 1) := by decide +kernel
theorem dL_law_73 : decode cL_law 73 = .ok (.istore 6, 2) := by decide +kernel
theorem dL_law_75 : decode cL_law 75 = .ok (.aload_n 1, 1) := by decide +kernel
theorem dL_law_76 : decode cL_law 76 = .ok (.bipush 14, 2) := by decide +kernel
theorem dL_law_78 : decode cL_law 78 = .ok (.invokevirtual 18, 3) := by decide +kernel
theorem dL_law_81 : decode cL_law 81 = .ok (.istore 7, 2) := by decide +kernel
theorem dL_law_83 : decode cL_law 83 = .ok (.aload_n 1, 1) := by decide +kernel
theorem dL_law_84 : decode cL_law 84 = .ok (.aload_n 0, 1) := by decide +kernel
theorem dL_law_85 : decode cL_law 85 = .ok (.iconst 4, 1) := by decide +kernel
theorem dL_law_86 : decode cL_law 86 = .ok (.iload 5, 2) := by decide +kernel
theorem dL_law_88 : decode cL_law 88 = .ok (.imul, 1) := by decide +kernel
theorem dL_law_89 : decode cL_law 89 = .ok (.invokestatic 54, 3) := by decide +kernel
theorem dL_law_92 : decode cL_law 92 = .ok (.istore 8, 2) := by decide +kernel
theorem dL_law_94 : decode cL_law 94 = .ok (.iload 8, 2) := by decide +kernel
theorem dL_law_96 : decode cL_law 96 = .ok (.ifCond .ge 14, 3) := by decide +kernel
theorem dL_law_99 : decode cL_law 99 = .ok (.aload_n 1, 1) := by decide +kernel
theorem dL_law_100 : decode cL_law 100 = .ok (.bipush 14, 2) := by decide +kernel
theorem dL_law_102 : decode cL_law 102 = .ok (.invokevirtual 18, 3) := by decide +kernel
theorem dL_law_105 : decode cL_law 105 = .ok (.iload 7, 2) := by decide +kernel
theorem dL_law_107 : decode cL_law 107 = .ok (.if_icmp .ne 7, 3) := by decide +kernel
theorem dL_law_110 : decode cL_law 110 = .ok (.iconst 1, 1) := by decide +kernel
theorem dL_law_111 : decode cL_law 111 = .ok (.goto 4, 3) := by decide +kernel
theorem dL_law_114 : decode cL_law 114 = .ok (.iconst 0, 1) := by decide +kernel
theorem dL_law_115 : decode cL_law 115 = .ok (.istore_n 2, 1) := by decide +kernel
theorem dL_law_116 : decode cL_law 116 = .ok (.iload_n 3, 1) := by decide +kernel
theorem dL_law_117 : decode cL_law 117 = .ok (.aload_n 1, 1) := by decide +kernel
theorem dL_law_118 : decode cL_law 118 = .ok (.iconst 0, 1) := by decide +kernel
theorem dL_law_119 : decode cL_law 119 = .ok (.iconst 3, 1) := by decide +kernel
theorem dL_law_120 : decode cL_law 120 = .ok (.invokevirtual 9, 3) := by decide +kernel
theorem dL_law_123 : decode cL_law 123 = .ok (.aload_n 1, 1) := by decide +kernel
theorem dL_law_124 : decode cL_law 124 = .ok (.iconst 1, 1) := by decide +kernel
theorem dL_law_125 : decode cL_law 125 = .ok (.iconst 3, 1) := by decide +kernel
theorem dL_law_126 : decode cL_law 126 = .ok (.invokevirtual 9, 3) := by decide +kernel
theorem dL_law_129 : decode cL_law 129 = .ok (.iadd, 1) := by decide +kernel
theorem dL_law_130 : decode cL_law 130 = .ok (.aload_n 1, 1) := by decide +kernel
theorem dL_law_131 : decode cL_law 131 = .ok (.iconst 2, 1) := by decide +kernel
theorem dL_law_132 : decode cL_law 132 = .ok (.iconst 3, 1) := by decide +kernel
theorem dL_law_133 : decode cL_law 133 = .ok (.invokevirtual 9, 3) := by decide +kernel
theorem dL_law_136 : decode cL_law 136 = .ok (.iadd, 1) := by decide +kernel
theorem dL_law_137 : decode cL_law 137 = .ok (.aload_n 1, 1) := by decide +kernel
theorem dL_law_138 : decode cL_law 138 = .ok (.iconst 3, 1) := by decide +kernel
theorem dL_law_139 : decode cL_law 139 = .ok (.iconst 3, 1) := by decide +kernel
theorem dL_law_140 : decode cL_law 140 = .ok (.invokevirtual 9, 3) := by decide +kernel
theorem dL_law_143 : decode cL_law 143 = .ok (.iadd, 1) := by decide +kernel
theorem dL_law_144 : decode cL_law 144 = .ok (.iload 6, 2) := by decide +kernel
theorem dL_law_146 : decode cL_law 146 = .ok (.isub, 1) := by decide +kernel
theorem dL_law_147 : decode cL_law 147 = .ok (.iadd, 1) := by decide +kernel
theorem dL_law_148 : decode cL_law 148 = .ok (.istore_n 3, 1) := by decide +kernel
theorem dL_law_149 : decode cL_law 149 = .ok (.aload_n 0, 1) := by decide +kernel
theorem dL_law_150 : decode cL_law 150 = .ok (.iconst 4, 1) := by decide +kernel
theorem dL_law_151 : decode cL_law 151 = .ok (.iload 5, 2) := by decide +kernel
theorem dL_law_153 : decode cL_law 153 = .ok (.imul, 1) := by decide +kernel
theorem dL_law_154 : decode cL_law 154 = .ok (.iconst 3, 1) := by decide +kernel
theorem dL_law_155 : decode cL_law 155 = .ok (.iadd, 1) := by decide +kernel
theorem dL_law_156 : decode cL_law 156 = .ok (.invokestatic 28, 3) := by decide +kernel
theorem dL_law_159 : decode cL_law 159 = .ok (.bipush 50, 2) := by decide +kernel
theorem dL_law_161 : decode cL_law 161 = .ok (.invokestatic 34, 3) := by decide +kernel
theorem dL_law_164 : decode cL_law 164 = .ok (.istore 9, 2) := by decide +kernel
theorem dL_law_166 : decode cL_law 166 = .ok (.iconst 0, 1) := by decide +kernel
theorem dL_law_167 : decode cL_law 167 = .ok (.istore 10, 2) := by decide +kernel
theorem dL_law_169 : decode cL_law 169 = .ok (.iload 10, 2) := by decide +kernel
theorem dL_law_171 : decode cL_law 171 = .ok (.iload 9, 2) := by decide +kernel
theorem dL_law_173 : decode cL_law 173 = .ok (.if_icmp .ge 277, 3) := by decide +kernel
theorem dL_law_176 : decode cL_law 176 = .ok (.iload_n 2, 1) := by decide +kernel
theorem dL_law_177 : decode cL_law 177 = .ok (.ifCond .eq 273, 3) := by decide +kernel
theorem dL_law_180 : decode cL_law 180 = .ok (.aload_n 1, 1) := by decide +kernel
theorem dL_law_181 : decode cL_law 181 = .ok (.iconst 0, 1) := by decide +kernel
theorem dL_law_182 : decode cL_law 182 = .ok (.invokevirtual 18, 3) := by decide +kernel
theorem dL_law_185 : decode cL_law 185 = .ok (.istore 11, 2) := by decide +kernel
theorem dL_law_187 : decode cL_law 187 = .ok (.aload_n 1, 1) := by decide +kernel
theorem dL_law_188 : decode cL_law 188 = .ok (.iconst 0, 1) := by decide +kernel
theorem dL_law_189 : decode cL_law 189 = .ok (.bipush 8, 2) := by decide +kernel
theorem dL_law_191 : decode cL_law 191 = .ok (.invokevirtual 9, 3) := by decide +kernel
theorem dL_law_194 : decode cL_law 194 = .ok (.aload_n 1, 1) := by decide +kernel
theorem dL_law_195 : decode cL_law 195 = .ok (.iconst 1, 1) := by decide +kernel
theorem dL_law_196 : decode cL_law 196 = .ok (.bipush 8, 2) := by decide +kernel
theorem dL_law_198 : decode cL_law 198 = .ok (.invokevirtual 9, 3) := by decide +kernel
theorem dL_law_201 : decode cL_law 201 = .ok (.iadd, 1) := by decide +kernel
theorem dL_law_202 : decode cL_law 202 = .ok (.aload_n 1, 1) := by decide +kernel
theorem dL_law_203 : decode cL_law 203 = .ok (.iconst 2, 1) := by decide +kernel
theorem dL_law_204 : decode cL_law 204 = .ok (.bipush 8, 2) := by decide +kernel
theorem dL_law_206 : decode cL_law 206 = .ok (.invokevirtual 9, 3) := by decide +kernel
theorem dL_law_209 : decode cL_law 209 = .ok (.iadd, 1) := by decide +kernel
theorem dL_law_210 : decode cL_law 210 = .ok (.aload_n 1, 1) := by decide +kernel
theorem dL_law_211 : decode cL_law 211 = .ok (.iconst 3, 1) := by decide +kernel
theorem dL_law_212 : decode cL_law 212 = .ok (.bipush 8, 2) := by decide +kernel
theorem dL_law_214 : decode cL_law 214 = .ok (.invokevirtual 9, 3) := by decide +kernel
theorem dL_law_217 : decode cL_law 217 = .ok (.iadd, 1) := by decide +kernel
theorem dL_law_218 : decode cL_law 218 = .ok (.istore 12, 2) := by decide +kernel
theorem dL_law_220 : decode cL_law 220 = .ok (.aload_n 1, 1) := by decide +kernel
theorem dL_law_221 : decode cL_law 221 = .ok (.iconst 5, 1) := by decide +kernel
theorem dL_law_222 : decode cL_law 222 = .ok (.invokevirtual 18, 3) := by decide +kernel
theorem dL_law_225 : decode cL_law 225 = .ok (.istore 13, 2) := by decide +kernel
theorem dL_law_227 : decode cL_law 227 = .ok (.aload_n 1, 1) := by decide +kernel
theorem dL_law_228 : decode cL_law 228 = .ok (.iconst 3, 1) := by decide +kernel
theorem dL_law_229 : decode cL_law 229 = .ok (.invokevirtual 18, 3) := by decide +kernel
theorem dL_law_232 : decode cL_law 232 = .ok (.istore 14, 2) := by decide +kernel
theorem dL_law_234 : decode cL_law 234 = .ok (.iconst 0, 1) := by decide +kernel
theorem dL_law_235 : decode cL_law 235 = .ok (.istore 15, 2) := by decide +kernel
theorem dL_law_237 : decode cL_law 237 = .ok (.iload 15, 2) := by decide +kernel
theorem dL_law_239 : decode cL_law 239 = .ok (.iconst 4, 1) := by decide +kernel
theorem dL_law_240 : decode cL_law 240 = .ok (.if_icmp .ge 38, 3) := by decide +kernel
theorem dL_law_243 : decode cL_law 243 = .ok (.iload_n 3, 1) := by decide +kernel
theorem dL_law_244 : decode cL_law 244 = .ok (.iload 11, 2) := by decide +kernel
theorem dL_law_246 : decode cL_law 246 = .ok (.aload_n 1, 1) := by decide +kernel
theorem dL_law_247 : decode cL_law 247 = .ok (.iload 15, 2) := by decide +kernel
theorem dL_law_249 : decode cL_law 249 = .ok (.bipush 12, 2) := by decide +kernel
theorem dL_law_251 : decode cL_law 251 = .ok (.invokevirtual 9, 3) := by decide +kernel
theorem dL_law_254 : decode cL_law 254 = .ok (.irem, 1) := by decide +kernel
theorem dL_law_255 : decode cL_law 255 = .ok (.ifCond .ne 14, 3) := by decide +kernel
theorem dL_law_258 : decode cL_law 258 = .ok (.aload_n 1, 1) := by decide +kernel
theorem dL_law_259 : decode cL_law 259 = .ok (.iload 15, 2) := by decide +kernel
theorem dL_law_261 : decode cL_law 261 = .ok (.bipush 13, 2) := by decide +kernel
theorem dL_law_263 : decode cL_law 263 = .ok (.invokevirtual 9, 3) := by decide +kernel
theorem dL_law_266 : decode cL_law 266 = .ok (.goto 4, 3) := by decide +kernel
theorem dL_law_269 : decode cL_law 269 = .ok (.iconst 0, 1) := by decide +kernel
theorem dL_law_270 : decode cL_law 270 = .ok (.iadd, 1) := by decide +kernel
theorem dL_law_271 : decode cL_law 271 = .ok (.istore_n 3, 1) := by decide +kernel
theorem dL_law_272 : decode cL_law 272 = .ok (.iinc 15 1, 3) := by decide +kernel
theorem dL_law_275 : decode cL_law 275 = .ok (.goto (-38), 3) := by decide +kernel
theorem dL_law_278 : decode cL_law 278 = .ok (.aload_n 1, 1) := by decide +kernel
theorem dL_law_279 : decode cL_law 279 = .ok (.iconst 1, 1) := by decide +kernel
theorem dL_law_280 : decode cL_law 280 = .ok (.invokevirtual 58, 3) := by decide +kernel
theorem dL_law_283 : decode cL_law 283 = .ok (.pop, 1) := by decide +kernel
theorem dL_law_284 : decode cL_law 284 = .ok (.iconst 0, 1) := by decide +kernel
theorem dL_law_285 : decode cL_law 285 = .ok (.istore 15, 2) := by decide +kernel
theorem dL_law_287 : decode cL_law 287 = .ok (.iconst 0, 1) := by decide +kernel
theorem dL_law_288 : decode cL_law 288 = .ok (.istore 16, 2) := by decide +kernel
theorem dL_law_290 : decode cL_law 290 = .ok (.iload 16, 2) := by decide +kernel
theorem dL_law_292 : decode cL_law 292 = .ok (.iconst 4, 1) := by decide +kernel
theorem dL_law_293 : decode cL_law 293 = .ok (.if_icmp .ge 38, 3) := by decide +kernel
theorem dL_law_296 : decode cL_law 296 = .ok (.iload 15, 2) := by decide +kernel
theorem dL_law_298 : decode cL_law 298 = .ok (.aload_n 1, 1) := by decide +kernel
theorem dL_law_299 : decode cL_law 299 = .ok (.iload 16, 2) := by decide +kernel
theorem dL_law_301 : decode cL_law 301 = .ok (.iconst 2, 1) := by decide +kernel
theorem dL_law_302 : decode cL_law 302 = .ok (.invokevirtual 9, 3) := by decide +kernel
theorem dL_law_305 : decode cL_law 305 = .ok (.aload_n 1, 1) := by decide +kernel
theorem dL_law_306 : decode cL_law 306 = .ok (.iload 16, 2) := by decide +kernel
theorem dL_law_308 : decode cL_law 308 = .ok (.iconst 3, 1) := by decide +kernel
theorem dL_law_309 : decode cL_law 309 = .ok (.invokevirtual 9, 3) := by decide +kernel
theorem dL_law_312 : decode cL_law 312 = .ok (.iadd, 1) := by decide +kernel
theorem dL_law_313 : decode cL_law 313 = .ok (.aload_n 1, 1) := by decide +kernel
theorem dL_law_314 : decode cL_law 314 = .ok (.iload 16, 2) := by decide +kernel
theorem dL_law_316 : decode cL_law 316 = .ok (.bipush 6, 2) := by decide +kernel
theorem dL_law_318 : decode cL_law 318 = .ok (.invokevirtual 9, 3) := by decide +kernel
theorem dL_law_321 : decode cL_law 321 = .ok (.iadd, 1) := by decide +kernel
theorem dL_law_322 : decode cL_law 322 = .ok (.iadd, 1) := by decide +kernel
theorem dL_law_323 : decode cL_law 323 = .ok (.istore 15, 2) := by decide +kernel
theorem dL_law_325 : decode cL_law 325 = .ok (.iinc 16 1, 3) := by decide +kernel
theorem dL_law_328 : decode cL_law 328 = .ok (.goto (-38), 3) := by decide +kernel
theorem dL_law_331 : decode cL_law 331 = .ok (.aload_n 1, 1) := by decide +kernel
theorem dL_law_332 : decode cL_law 332 = .ok (.iconst 0, 1) := by decide +kernel
theorem dL_law_333 : decode cL_law 333 = .ok (.bipush 8, 2) := by decide +kernel
theorem dL_law_335 : decode cL_law 335 = .ok (.invokevirtual 9, 3) := by decide +kernel
theorem dL_law_338 : decode cL_law 338 = .ok (.aload_n 1, 1) := by decide +kernel
theorem dL_law_339 : decode cL_law 339 = .ok (.iconst 1, 1) := by decide +kernel
theorem dL_law_340 : decode cL_law 340 = .ok (.bipush 8, 2) := by decide +kernel
theorem dL_law_342 : decode cL_law 342 = .ok (.invokevirtual 9, 3) := by decide +kernel
theorem dL_law_345 : decode cL_law 345 = .ok (.iadd, 1) := by decide +kernel
theorem dL_law_346 : decode cL_law 346 = .ok (.aload_n 1, 1) := by decide +kernel
theorem dL_law_347 : decode cL_law 347 = .ok (.iconst 2, 1) := by decide +kernel
theorem dL_law_348 : decode cL_law 348 = .ok (.bipush 8, 2) := by decide +kernel
theorem dL_law_350 : decode cL_law 350 = .ok (.invokevirtual 9, 3) := by decide +kernel
theorem dL_law_353 : decode cL_law 353 = .ok (.iadd, 1) := by decide +kernel
theorem dL_law_354 : decode cL_law 354 = .ok (.aload_n 1, 1) := by decide +kernel
theorem dL_law_355 : decode cL_law 355 = .ok (.iconst 3, 1) := by decide +kernel
theorem dL_law_356 : decode cL_law 356 = .ok (.bipush 8, 2) := by decide +kernel
theorem dL_law_358 : decode cL_law 358 = .ok (.invokevirtual 9, 3) := by decide +kernel
theorem dL_law_361 : decode cL_law 361 = .ok (.iadd, 1) := by decide +kernel
theorem dL_law_362 : decode cL_law 362 = .ok (.iload 12, 2) := by decide +kernel
theorem dL_law_364 : decode cL_law 364 = .ok (.isub, 1) := by decide +kernel
theorem dL_law_365 : decode cL_law 365 = .ok (.istore 12, 2) := by decide +kernel
theorem dL_law_367 : decode cL_law 367 = .ok (.aload_n 1, 1) := by decide +kernel
theorem dL_law_368 : decode cL_law 368 = .ok (.iconst 5, 1) := by decide +kernel
theorem dL_law_369 : decode cL_law 369 = .ok (.invokevirtual 18, 3) := by decide +kernel
theorem dL_law_372 : decode cL_law 372 = .ok (.iload 13, 2) := by decide +kernel
theorem dL_law_374 : decode cL_law 374 = .ok (.isub, 1) := by decide +kernel
theorem dL_law_375 : decode cL_law 375 = .ok (.istore 16, 2) := by decide +kernel
theorem dL_law_377 : decode cL_law 377 = .ok (.iload 15, 2) := by decide +kernel
theorem dL_law_379 : decode cL_law 379 = .ok (.iload_n 3, 1) := by decide +kernel
theorem dL_law_380 : decode cL_law 380 = .ok (.if_icmp .ne 62, 3) := by decide +kernel
theorem dL_law_383 : decode cL_law 383 = .ok (.aload_n 1, 1) := by decide +kernel
theorem dL_law_384 : decode cL_law 384 = .ok (.iconst 0, 1) := by decide +kernel
theorem dL_law_385 : decode cL_law 385 = .ok (.invokevirtual 18, 3) := by decide +kernel
theorem dL_law_388 : decode cL_law 388 = .ok (.iload 11, 2) := by decide +kernel
theorem dL_law_390 : decode cL_law 390 = .ok (.iconst 1, 1) := by decide +kernel
theorem dL_law_391 : decode cL_law 391 = .ok (.iadd, 1) := by decide +kernel
theorem dL_law_392 : decode cL_law 392 = .ok (.if_icmp .ne 50, 3) := by decide +kernel
theorem dL_law_395 : decode cL_law 395 = .ok (.iload 16, 2) := by decide +kernel
theorem dL_law_397 : decode cL_law 397 = .ok (.ifCond .lt 45, 3) := by decide +kernel
theorem dL_law_400 : decode cL_law 400 = .ok (.iload 16, 2) := by decide +kernel
theorem dL_law_402 : decode cL_law 402 = .ok (.iload 12, 2) := by decide +kernel
theorem dL_law_404 : decode cL_law 404 = .ok (.if_icmp .gt 38, 3) := by decide +kernel
theorem dL_law_407 : decode cL_law 407 = .ok (.aload_n 1, 1) := by decide +kernel
theorem dL_law_408 : decode cL_law 408 = .ok (.iconst 3, 1) := by decide +kernel
theorem dL_law_409 : decode cL_law 409 = .ok (.invokevirtual 18, 3) := by decide +kernel
theorem dL_law_412 : decode cL_law 412 = .ok (.iload 14, 2) := by decide +kernel
theorem dL_law_414 : decode cL_law 414 = .ok (.isub, 1) := by decide +kernel
theorem dL_law_415 : decode cL_law 415 = .ok (.iload 12, 2) := by decide +kernel
theorem dL_law_417 : decode cL_law 417 = .ok (.iload 16, 2) := by decide +kernel
theorem dL_law_419 : decode cL_law 419 = .ok (.isub, 1) := by decide +kernel
theorem dL_law_420 : decode cL_law 420 = .ok (.aload_n 1, 1) := by decide +kernel
theorem dL_law_421 : decode cL_law 421 = .ok (.bipush 7, 2) := by decide +kernel
theorem dL_law_423 : decode cL_law 423 = .ok (.invokevirtual 18, 3) := by decide +kernel
theorem dL_law_426 : decode cL_law 426 = .ok (.imul, 1) := by decide +kernel
theorem dL_law_427 : decode cL_law 427 = .ok (.if_icmp .ne 15, 3) := by decide +kernel
theorem dL_law_430 : decode cL_law 430 = .ok (.aload_n 1, 1) := by decide +kernel
theorem dL_law_431 : decode cL_law 431 = .ok (.iconst 4, 1) := by decide +kernel
theorem dL_law_432 : decode cL_law 432 = .ok (.invokevirtual 18, 3) := by decide +kernel
theorem dL_law_435 : decode cL_law 435 = .ok (.ifCond .lt 7, 3) := by decide +kernel
theorem dL_law_438 : decode cL_law 438 = .ok (.iconst 1, 1) := by decide +kernel
theorem dL_law_439 : decode cL_law 439 = .ok (.goto 4, 3) := by decide +kernel
theorem dL_law_442 : decode cL_law 442 = .ok (.iconst 0, 1) := by decide +kernel
theorem dL_law_443 : decode cL_law 443 = .ok (.istore_n 2, 1) := by decide +kernel
theorem dL_law_444 : decode cL_law 444 = .ok (.iinc 10 1, 3) := by decide +kernel
theorem dL_law_447 : decode cL_law 447 = .ok (.goto (-278), 3) := by decide +kernel
theorem dL_law_450 : decode cL_law 450 = .ok (.iconst 0, 1) := by decide +kernel
theorem dL_law_451 : decode cL_law 451 = .ok (.istore 10, 2) := by decide +kernel
theorem dL_law_453 : decode cL_law 453 = .ok (.iload 10, 2) := by decide +kernel
theorem dL_law_455 : decode cL_law 455 = .ok (.iconst 4, 1) := by decide +kernel
theorem dL_law_456 : decode cL_law 456 = .ok (.if_icmp .ge 20, 3) := by decide +kernel
theorem dL_law_459 : decode cL_law 459 = .ok (.iload_n 2, 1) := by decide +kernel
theorem dL_law_460 : decode cL_law 460 = .ok (.ifCond .eq 16, 3) := by decide +kernel
theorem dL_law_463 : decode cL_law 463 = .ok (.aload_n 1, 1) := by decide +kernel
theorem dL_law_464 : decode cL_law 464 = .ok (.iload 10, 2) := by decide +kernel
theorem dL_law_466 : decode cL_law 466 = .ok (.invokestatic 61, 3) := by decide +kernel
theorem dL_law_469 : decode cL_law 469 = .ok (.istore_n 2, 1) := by decide +kernel
theorem dL_law_470 : decode cL_law 470 = .ok (.iinc 10 1, 3) := by decide +kernel
theorem dL_law_473 : decode cL_law 473 = .ok (.goto (-20), 3) := by decide +kernel
theorem dL_law_476 : decode cL_law 476 = .ok (.iinc 5 1, 3) := by decide +kernel
theorem dL_law_479 : decode cL_law 479 = .ok (.goto (-444), 3) := by decide +kernel
theorem dL_law_482 : decode cL_law 482 = .ok (.iload_n 2, 1) := by decide +kernel
theorem dL_law_483 : decode cL_law 483 = .ok (.ireturn, 1) := by decide +kernel
