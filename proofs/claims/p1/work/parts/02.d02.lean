theorem dX11_init_291 : decode cX11_init 291 = .ok (.putfield 114, 3) := by decide +kernel
theorem dX11_init_294 : decode cX11_init 294 = .ok (.aload_n 0, 1) := by decide +kernel
theorem dX11_init_295 : decode cX11_init 295 = .ok (.ldc 80, 2) := by decide +kernel
theorem dX11_init_297 : decode cX11_init 297 = .ok (.newarray .boolean, 2) := by decide +kernel
theorem dX11_init_299 : decode cX11_init 299 = .ok (.putfield 117, 3) := by decide +kernel
theorem dX11_init_302 : decode cX11_init 302 = .ok (.aload_n 0, 1) := by decide +kernel
theorem dX11_init_303 : decode cX11_init 303 = .ok (.ldc 120, 2) := by decide +kernel
theorem dX11_init_305 : decode cX11_init 305 = .ok (.newarray .int, 2) := by decide +kernel
theorem dX11_init_307 : decode cX11_init 307 = .ok (.putfield 121, 3) := by decide +kernel
theorem dX11_init_310 : decode cX11_init 310 = .ok (.aload_n 0, 1) := by decide +kernel
theorem dX11_init_311 : decode cX11_init 311 = .ok (.ldc 120, 2) := by decide +kernel
theorem dX11_init_313 : decode cX11_init 313 = .ok (.newarray .int, 2) := by decide +kernel
theorem dX11_init_315 : decode cX11_init 315 = .ok (.putfield 124, 3) := by decide +kernel
theorem dX11_init_318 : decode cX11_init 318 = .ok (.aload_n 0, 1) := by decide +kernel
theorem dX11_init_319 : decode cX11_init 319 = .ok (.ldc 127, 2) := by decide +kernel
theorem dX11_init_321 : decode cX11_init 321 = .ok (.newarray .int, 2) := by decide +kernel
theorem dX11_init_323 : decode cX11_init 323 = .ok (.putfield 128, 3) := by decide +kernel
theorem dX11_init_326 : decode cX11_init 326 = .ok (.aload_n 0, 1) := by decide +kernel
theorem dX11_init_327 : decode cX11_init 327 = .ok (.ldc 127, 2) := by decide +kernel
theorem dX11_init_329 : decode cX11_init 329 = .ok (.newarray .int, 2) := by decide +kernel
theorem dX11_init_331 : decode cX11_init 331 = .ok (.putfield 131, 3) := by decide +kernel
theorem dX11_init_334 : decode cX11_init 334 = .ok (.aload_n 0, 1) := by decide +kernel
theorem dX11_init_335 : decode cX11_init 335 = .ok (.ldc 127, 2) := by decide +kernel
theorem dX11_init_337 : decode cX11_init 337 = .ok (.newarray .int, 2) := by decide +kernel
theorem dX11_init_339 : decode cX11_init 339 = .ok (.putfield 134, 3) := by decide +kernel
theorem dX11_init_342 : decode cX11_init 342 = .ok (.aload_n 0, 1) := by decide +kernel
theorem dX11_init_343 : decode cX11_init 343 = .ok (.sipush 8192, 3) := by decide +kernel
theorem dX11_init_346 : decode cX11_init 346 = .ok (.newarray .int, 2) := by decide +kernel
theorem dX11_init_348 : decode cX11_init 348 = .ok (.putfield 137, 3) := by decide +kernel
theorem dX11_init_351 : decode cX11_init 351 = .ok (.aload_n 0, 1) := by decide +kernel
theorem dX11_init_352 : decode cX11_init 352 = .ok (.bipush 31, 2) := by decide +kernel
theorem dX11_init_354 : decode cX11_init 354 = .ok (.newarray .int, 2) := by decide +kernel
theorem dX11_init_356 : decode cX11_init 356 = .ok (.putfield 140, 3) := by decide +kernel
theorem dX11_init_359 : decode cX11_init 359 = .ok (.aload_n 0, 1) := by decide +kernel
theorem dX11_init_360 : decode cX11_init 360 = .ok (.bipush 61, 2) := by decide +kernel
theorem dX11_init_362 : decode cX11_init 362 = .ok (.newarray .int, 2) := by decide +kernel
theorem dX11_init_364 : decode cX11_init 364 = .ok (.putfield 143, 3) := by decide +kernel
theorem dX11_init_367 : decode cX11_init 367 = .ok (.aload_n 0, 1) := by decide +kernel
theorem dX11_init_368 : decode cX11_init 368 = .ok (.bipush 32, 2) := by decide +kernel
theorem dX11_init_370 : decode cX11_init 370 = .ok (.newarray .int, 2) := by decide +kernel
theorem dX11_init_372 : decode cX11_init 372 = .ok (.putfield 146, 3) := by decide +kernel
theorem dX11_init_375 : decode cX11_init 375 = .ok (.aload_n 0, 1) := by decide +kernel
theorem dX11_init_376 : decode cX11_init 376 = .ok (.bipush 32, 2) := by decide +kernel
theorem dX11_init_378 : decode cX11_init 378 = .ok (.newarray .int, 2) := by decide +kernel
theorem dX11_init_380 : decode cX11_init 380 = .ok (.putfield 149, 3) := by decide +kernel
theorem dX11_init_383 : decode cX11_init 383 = .ok (.aload_n 0, 1) := by decide +kernel
theorem dX11_init_384 : decode cX11_init 384 = .ok (.bipush 32, 2) := by decide +kernel
theorem dX11_init_386 : decode cX11_init 386 = .ok (.newarray .int, 2) := by decide +kernel
theorem dX11_init_388 : decode cX11_init 388 = .ok (.putfield 152, 3) := by decide +kernel
theorem dX11_init_391 : decode cX11_init 391 = .ok (.aload_n 0, 1) := by decide +kernel
theorem dX11_init_392 : decode cX11_init 392 = .ok (.bipush 60, 2) := by decide +kernel
theorem dX11_init_394 : decode cX11_init 394 = .ok (.newarray .int, 2) := by decide +kernel
theorem dX11_init_396 : decode cX11_init 396 = .ok (.putfield 155, 3) := by decide +kernel
theorem dX11_init_399 : decode cX11_init 399 = .ok (.aload_n 0, 1) := by decide +kernel
theorem dX11_init_400 : decode cX11_init 400 = .ok (.bipush 31, 2) := by decide +kernel
theorem dX11_init_402 : decode cX11_init 402 = .ok (.newarray .int, 2) := by decide +kernel
theorem dX11_init_404 : decode cX11_init 404 = .ok (.putfield 158, 3) := by decide +kernel
theorem dX11_init_407 : decode cX11_init 407 = .ok (.aload_n 0, 1) := by decide +kernel
theorem dX11_init_408 : decode cX11_init 408 = .ok (.sipush 2000, 3) := by decide +kernel
theorem dX11_init_411 : decode cX11_init 411 = .ok (.newarray .int, 2) := by decide +kernel
theorem dX11_init_413 : decode cX11_init 413 = .ok (.putfield 161, 3) := by decide +kernel
theorem dX11_init_416 : decode cX11_init 416 = .ok (.aload_n 0, 1) := by decide +kernel
theorem dX11_init_417 : decode cX11_init 417 = .ok (.sipush 2000, 3) := by decide +kernel
theorem dX11_init_420 : decode cX11_init 420 = .ok (.newarray .int, 2) := by decide +kernel
theorem dX11_init_422 : decode cX11_init 422 = .ok (.putfield 164, 3) := by decide +kernel
theorem dX11_init_425 : decode cX11_init 425 = .ok (.aload_n 0, 1) := by decide +kernel
theorem dX11_init_426 : decode cX11_init 426 = .ok (.sipush 2000, 3) := by decide +kernel
theorem dX11_init_429 : decode cX11_init 429 = .ok (.newarray .int, 2) := by decide +kernel
theorem dX11_init_431 : decode cX11_init 431 = .ok (.putfield 167, 3) := by decide +kernel
theorem dX11_init_434 : decode cX11_init 434 = .ok (.aload_n 0, 1) := by decide +kernel
theorem dX11_init_435 : decode cX11_init 435 = .ok (.sipush 8000, 3) := by decide +kernel
theorem dX11_init_438 : decode cX11_init 438 = .ok (.newarray .int, 2) := by decide +kernel
theorem dX11_init_440 : decode cX11_init 440 = .ok (.putfield 170, 3) := by decide +kernel
theorem dX11_init_443 : decode cX11_init 443 = .ok (.aload_n 0, 1) := by decide +kernel
theorem dX11_init_444 : decode cX11_init 444 = .ok (.bipush 32, 2) := by decide +kernel
theorem dX11_init_446 : decode cX11_init 446 = .ok (.newarray .int, 2) := by decide +kernel
theorem dX11_init_448 : decode cX11_init 448 = .ok (.putfield 173, 3) := by decide +kernel
theorem dX11_init_451 : decode cX11_init 451 = .ok (.aload_n 0, 1) := by decide +kernel
theorem dX11_init_452 : decode cX11_init 452 = .ok (.bipush 31, 2) := by decide +kernel
theorem dX11_init_454 : decode cX11_init 454 = .ok (.newarray .int, 2) := by decide +kernel
theorem dX11_init_456 : decode cX11_init 456 = .ok (.putfield 176, 3) := by decide +kernel
theorem dX11_init_459 : decode cX11_init 459 = .ok (.aload_n 0, 1) := by decide +kernel
theorem dX11_init_460 : decode cX11_init 460 = .ok (.bipush 33, 2) := by decide +kernel
theorem dX11_init_462 : decode cX11_init 462 = .ok (.newarray .int, 2) := by decide +kernel
theorem dX11_init_464 : decode cX11_init 464 = .ok (.putfield 179, 3) := by decide +kernel
theorem dX11_init_467 : decode cX11_init 467 = .ok (.aload_n 0, 1) := by decide +kernel
theorem dX11_init_468 : decode cX11_init 468 = .ok (.bipush 33, 2) := by decide +kernel
theorem dX11_init_470 : decode cX11_init 470 = .ok (.newarray .int, 2) := by decide +kernel
theorem dX11_init_472 : decode cX11_init 472 = .ok (.putfield 182, 3) := by decide +kernel
theorem dX11_init_475 : decode cX11_init 475 = .ok (.aload_n 0, 1) := by decide +kernel
theorem dX11_init_476 : decode cX11_init 476 = .ok (.bipush 33, 2) := by decide +kernel
theorem dX11_init_478 : decode cX11_init 478 = .ok (.newarray .int, 2) := by decide +kernel
theorem dX11_init_480 : decode cX11_init 480 = .ok (.putfield 185, 3) := by decide +kernel
theorem dX11_init_483 : decode cX11_init 483 = .ok (.aload_n 0, 1) := by decide +kernel
theorem dX11_init_484 : decode cX11_init 484 = .ok (.iconst 0, 1) := by decide +kernel
theorem dX11_init_485 : decode cX11_init 485 = .ok (.putfield 188, 3) := by decide +kernel
theorem dX11_init_488 : decode cX11_init 488 = .ok (.return_, 1) := by decide +kernel
theorem dX11_thrown_0 : decode cX11_thrown 0 = .ok (.aload_n 0, 1) := by decide +kernel
theorem dX11_thrown_1 : decode cX11_thrown 1 = .ok (.getfield 192, 3) := by decide +kernel
theorem dX11_thrown_4 : decode cX11_thrown 4 = .ok (.ireturn, 1) := by decide +kernel
theorem dX11_in_0 : decode cX11_in 0 = .ok (.iload_n 0, 1) := by decide +kernel
theorem dX11_in_1 : decode cX11_in 1 = .ok (.iload_n 1, 1) := by decide +kernel
theorem dX11_in_2 : decode cX11_in 2 = .ok (.if_icmp .lt 12, 3) := by decide +kernel
theorem dX11_in_5 : decode cX11_in 5 = .ok (.iload_n 0, 1) := by decide +kernel
theorem dX11_in_6 : decode cX11_in 6 = .ok (.iload_n 2, 1) := by decide +kernel
theorem dX11_in_7 : decode cX11_in 7 = .ok (.if_icmp .gt 7, 3) := by decide +kernel
theorem dX11_in_10 : decode cX11_in 10 = .ok (.iconst 1, 1) := by decide +kernel
theorem dX11_in_11 : decode cX11_in 11 = .ok (.goto 4, 3) := by decide +kernel
theorem dX11_in_14 : decode cX11_in 14 = .ok (.iconst 0, 1) := by decide +kernel
theorem dX11_in_15 : decode cX11_in 15 = .ok (.ireturn, 1) := by decide +kernel
theorem dX11_isNode_0 : decode cX11_isNode 0 = .ok (.iload_n 1, 1) := by decide +kernel
theorem dX11_isNode_1 : decode cX11_isNode 1 = .ok (.iconst 0, 1) := by decide +kernel
theorem dX11_isNode_2 : decode cX11_isNode 2 = .ok (.aload_n 0, 1) := by decide +kernel
theorem dX11_isNode_3 : decode cX11_isNode 3 = .ok (.getfield 188, 3) := by decide +kernel
theorem dX11_isNode_6 : decode cX11_isNode 6 = .ok (.iconst 1, 1) := by decide +kernel
theorem dX11_isNode_7 : decode cX11_isNode 7 = .ok (.isub, 1) := by decide +kernel
theorem dX11_isNode_8 : decode cX11_isNode 8 = .ok (.invokestatic 195, 3) := by decide +kernel
theorem dX11_isNode_11 : decode cX11_isNode 11 = .ok (.ireturn, 1) := by decide +kernel
theorem dX11_leaf_0 : decode cX11_leaf 0 = .ok (.aload_n 0, 1) := by decide +kernel
theorem dX11_leaf_1 : decode cX11_leaf 1 = .ok (.getfield 188, 3) := by decide +kernel
theorem dX11_leaf_4 : decode cX11_leaf 4 = .ok (.istore 4, 2) := by decide +kernel
theorem dX11_leaf_6 : decode cX11_leaf 6 = .ok (.aload_n 0, 1) := by decide +kernel
theorem dX11_leaf_7 : decode cX11_leaf 7 = .ok (.getfield 7, 3) := by decide +kernel
theorem dX11_leaf_10 : decode cX11_leaf 10 = .ok (.iload 4, 2) := by decide +kernel
theorem dX11_leaf_12 : decode cX11_leaf 12 = .ok (.iload_n 1, 1) := by decide +kernel
theorem dX11_leaf_13 : decode cX11_leaf 13 = .ok (.iastore, 1) := by decide +kernel
theorem dX11_leaf_14 : decode cX11_leaf 14 = .ok (.aload_n 0, 1) := by decide +kernel
theorem dX11_leaf_15 : decode cX11_leaf 15 = .ok (.getfield 13, 3) := by decide +kernel
theorem dX11_leaf_18 : decode cX11_leaf 18 = .ok (.iload 4, 2) := by decide +kernel
theorem dX11_leaf_20 : decode cX11_leaf 20 = .ok (.iload_n 2, 1) := by decide +kernel
theorem dX11_leaf_21 : decode cX11_leaf 21 = .ok (.iastore, 1) := by decide +kernel
theorem dX11_leaf_22 : decode cX11_leaf 22 = .ok (.aload_n 0, 1) := by decide +kernel
theorem dX11_leaf_23 : decode cX11_leaf 23 = .ok (.getfield 16, 3) := by decide +kernel
theorem dX11_leaf_26 : decode cX11_leaf 26 = .ok (.iload 4, 2) := by decide +kernel
theorem dX11_leaf_28 : decode cX11_leaf 28 = .ok (.iload_n 3, 1) := by decide +kernel
theorem dX11_leaf_29 : decode cX11_leaf 29 = .ok (.iastore, 1) := by decide +kernel
theorem dX11_leaf_30 : decode cX11_leaf 30 = .ok (.aload_n 0, 1) := by decide +kernel
theorem dX11_leaf_31 : decode cX11_leaf 31 = .ok (.getfield 19, 3) := by decide +kernel
theorem dX11_leaf_34 : decode cX11_leaf 34 = .ok (.iload 4, 2) := by decide +kernel
theorem dX11_leaf_36 : decode cX11_leaf 36 = .ok (.iconst (-1), 1) := by decide +kernel
theorem dX11_leaf_37 : decode cX11_leaf 37 = .ok (.iastore, 1) := by decide +kernel
theorem dX11_leaf_38 : decode cX11_leaf 38 = .ok (.aload_n 0, 1) := by decide +kernel
theorem dX11_leaf_39 : decode cX11_leaf 39 = .ok (.getfield 22, 3) := by decide +kernel
theorem dX11_leaf_42 : decode cX11_leaf 42 = .ok (.iload 4, 2) := by decide +kernel
theorem dX11_leaf_44 : decode cX11_leaf 44 = .ok (.iconst (-1), 1) := by decide +kernel
theorem dX11_leaf_45 : decode cX11_leaf 45 = .ok (.iastore, 1) := by decide +kernel
theorem dX11_leaf_46 : decode cX11_leaf 46 = .ok (.aload_n 0, 1) := by decide +kernel
theorem dX11_leaf_47 : decode cX11_leaf 47 = .ok (.getfield 25, 3) := by decide +kernel
theorem dX11_leaf_50 : decode cX11_leaf 50 = .ok (.iload 4, 2) := by decide +kernel
theorem dX11_leaf_52 : decode cX11_leaf 52 = .ok (.iconst 1, 1) := by decide +kernel
theorem dX11_leaf_53 : decode cX11_leaf 53 = .ok (.iastore, 1) := by decide +kernel
theorem dX11_leaf_54 : decode cX11_leaf 54 = .ok (.aload_n 0, 1) := by decide +kernel
theorem dX11_leaf_55 : decode cX11_leaf 55 = .ok (.getfield 28, 3) := by decide +kernel
theorem dX11_leaf_58 : decode cX11_leaf 58 = .ok (.iload 4, 2) := by decide +kernel
theorem dX11_leaf_60 : decode cX11_leaf 60 = .ok (.iconst 0, 1) := by decide +kernel
theorem dX11_leaf_61 : decode cX11_leaf 61 = .ok (.iastore, 1) := by decide +kernel
theorem dX11_leaf_62 : decode cX11_leaf 62 = .ok (.aload_n 0, 1) := by decide +kernel
theorem dX11_leaf_63 : decode cX11_leaf 63 = .ok (.getfield 31, 3) := by decide +kernel
theorem dX11_leaf_66 : decode cX11_leaf 66 = .ok (.iload 4, 2) := by decide +kernel
theorem dX11_leaf_68 : decode cX11_leaf 68 = .ok (.iconst 0, 1) := by decide +kernel
theorem dX11_leaf_69 : decode cX11_leaf 69 = .ok (.iastore, 1) := by decide +kernel
theorem dX11_leaf_70 : decode cX11_leaf 70 = .ok (.aload_n 0, 1) := by decide +kernel
theorem dX11_leaf_71 : decode cX11_leaf 71 = .ok (.getfield 34, 3) := by decide +kernel
theorem dX11_leaf_74 : decode cX11_leaf 74 = .ok (.iload 4, 2) := by decide +kernel
theorem dX11_leaf_76 : decode cX11_leaf 76 = .ok (.iconst 1, 1) := by decide +kernel
theorem dX11_leaf_77 : decode cX11_leaf 77 = .ok (.iastore, 1) := by decide +kernel
theorem dX11_leaf_78 : decode cX11_leaf 78 = .ok (.aload_n 0, 1) := by decide +kernel
theorem dX11_leaf_79 : decode cX11_leaf 79 = .ok (.getfield 37, 3) := by decide +kernel
theorem dX11_leaf_82 : decode cX11_leaf 82 = .ok (.iload 4, 2) := by decide +kernel
theorem dX11_leaf_84 : decode cX11_leaf 84 = .ok (.iconst 1, 1) := by decide +kernel
theorem dX11_leaf_85 : decode cX11_leaf 85 = .ok (.iastore, 1) := by decide +kernel
theorem dX11_leaf_86 : decode cX11_leaf 86 = .ok (.aload_n 0, 1) := by decide +kernel
theorem dX11_leaf_87 : decode cX11_leaf 87 = .ok (.getfield 40, 3) := by decide +kernel
theorem dX11_leaf_90 : decode cX11_leaf 90 = .ok (.iload 4, 2) := by decide +kernel
theorem dX11_leaf_92 : decode cX11_leaf 92 = .ok (.iload_n 1, 1) := by decide +kernel
theorem dX11_leaf_93 : decode cX11_leaf 93 = .ok (.ifCond .ne 7, 3) := by decide +kernel
theorem dX11_leaf_96 : decode cX11_leaf 96 = .ok (.iload_n 3, 1) := by decide +kernel
theorem dX11_leaf_97 : decode cX11_leaf 97 = .ok (.goto 13, 3) := by decide +kernel
theorem dX11_leaf_100 : decode cX11_leaf 100 = .ok (.iload_n 1, 1) := by decide +kernel
theorem dX11_leaf_101 : decode cX11_leaf 101 = .ok (.iconst 2, 1) := by decide +kernel
theorem dX11_leaf_102 : decode cX11_leaf 102 = .ok (.if_icmp .ne 7, 3) := by decide +kernel
theorem dX11_leaf_105 : decode cX11_leaf 105 = .ok (.iconst 1, 1) := by decide +kernel
theorem dX11_leaf_106 : decode cX11_leaf 106 = .ok (.goto 4, 3) := by decide +kernel
theorem dX11_leaf_109 : decode cX11_leaf 109 = .ok (.iconst 0, 1) := by decide +kernel
theorem dX11_leaf_110 : decode cX11_leaf 110 = .ok (.iastore, 1) := by decide +kernel
theorem dX11_leaf_111 : decode cX11_leaf 111 = .ok (.aload_n 0, 1) := by decide +kernel
theorem dX11_leaf_112 : decode cX11_leaf 112 = .ok (.getfield 43, 3) := by decide +kernel
theorem dX11_leaf_115 : decode cX11_leaf 115 = .ok (.iload 4, 2) := by decide +kernel
theorem dX11_leaf_117 : decode cX11_leaf 117 = .ok (.iload_n 1, 1) := by decide +kernel
theorem dX11_leaf_118 : decode cX11_leaf 118 = .ok (.iconst 1, 1) := by decide +kernel
theorem dX11_leaf_119 : decode cX11_leaf 119 = .ok (.if_icmp .eq 13, 3) := by decide +kernel
theorem dX11_leaf_122 : decode cX11_leaf 122 = .ok (.iload_n 1, 1) := by decide +kernel
theorem dX11_leaf_123 : decode cX11_leaf 123 = .ok (.iconst 4, 1) := by decide +kernel
theorem dX11_leaf_124 : decode cX11_leaf 124 = .ok (.if_icmp .eq 8, 3) := by decide +kernel
theorem dX11_leaf_127 : decode cX11_leaf 127 = .ok (.iload_n 1, 1) := by decide +kernel
theorem dX11_leaf_128 : decode cX11_leaf 128 = .ok (.iconst 5, 1) := by decide +kernel
theorem dX11_leaf_129 : decode cX11_leaf 129 = .ok (.if_icmp .ne 7, 3) := by decide +kernel
theorem dX11_leaf_132 : decode cX11_leaf 132 = .ok (.iconst 1, 1) := by decide +kernel
theorem dX11_leaf_133 : decode cX11_leaf 133 = .ok (.goto 4, 3) := by decide +kernel
theorem dX11_leaf_136 : decode cX11_leaf 136 = .ok (.iconst 0, 1) := by decide +kernel
theorem dX11_leaf_137 : decode cX11_leaf 137 = .ok (.bastore, 1) := by decide +kernel
theorem dX11_leaf_138 : decode cX11_leaf 138 = .ok (.aload_n 0, 1) := by decide +kernel
theorem dX11_leaf_139 : decode cX11_leaf 139 = .ok (.dup, 1) := by decide +kernel
theorem dX11_leaf_140 : decode cX11_leaf 140 = .ok (.getfield 188, 3) := by decide +kernel
theorem dX11_leaf_143 : decode cX11_leaf 143 = .ok (.iconst 1, 1) := by decide +kernel
theorem dX11_leaf_144 : decode cX11_leaf 144 = .ok (.iadd, 1) := by decide +kernel
theorem dX11_leaf_145 : decode cX11_leaf 145 = .ok (.putfield 188, 3) := by decide +kernel
theorem dX11_leaf_148 : decode cX11_leaf 148 = .ok (.iload 4, 2) := by decide +kernel
theorem dX11_leaf_150 : decode cX11_leaf 150 = .ok (.ireturn, 1) := by decide +kernel
theorem dX11_text_0 : decode cX11_text 0 = .ok (.aload_n 0, 1) := by decide +kernel
theorem dX11_text_1 : decode cX11_text 1 = .ok (.iload_n 1, 1) := by decide +kernel
theorem dX11_text_2 : decode cX11_text 2 = .ok (.iconst 0, 1) := by decide +kernel
theorem dX11_text_3 : decode cX11_text 3 = .ok (.bipush 25, 2) := by decide +kernel
theorem dX11_text_5 : decode cX11_text 5 = .ok (.invokestatic 195, 3) := by decide +kernel
theorem dX11_text_8 : decode cX11_text 8 = .ok (.ifCond .eq 13, 3) := by decide +kernel
theorem dX11_text_11 : decode cX11_text 11 = .ok (.iload_n 2, 1) := by decide +kernel
theorem dX11_text_12 : decode cX11_text 12 = .ok (.iconst 1, 1) := by decide +kernel
theorem dX11_text_13 : decode cX11_text 13 = .ok (.bipush 20, 2) := by decide +kernel
theorem dX11_text_15 : decode cX11_text 15 = .ok (.invokestatic 195, 3) := by decide +kernel
theorem dX11_text_18 : decode cX11_text 18 = .ok (.ifCond .ne 7, 3) := by decide +kernel
theorem dX11_text_21 : decode cX11_text 21 = .ok (.iconst 1, 1) := by decide +kernel
theorem dX11_text_22 : decode cX11_text 22 = .ok (.goto 17, 3) := by decide +kernel
theorem dX11_text_25 : decode cX11_text 25 = .ok (.aload_n 0, 1) := by decide +kernel
theorem dX11_text_26 : decode cX11_text 26 = .ok (.getfield 188, 3) := by decide +kernel
theorem dX11_text_29 : decode cX11_text 29 = .ok (.bipush 60, 2) := by decide +kernel
theorem dX11_text_31 : decode cX11_text 31 = .ok (.if_icmp .ne 7, 3) := by decide +kernel
theorem dX11_text_34 : decode cX11_text 34 = .ok (.iconst 2, 1) := by decide +kernel
theorem dX11_text_35 : decode cX11_text 35 = .ok (.goto 4, 3) := by decide +kernel
theorem dX11_text_38 : decode cX11_text 38 = .ok (.iconst 0, 1) := by decide +kernel
theorem dX11_text_39 : decode cX11_text 39 = .ok (.putfield 192, 3) := by decide +kernel
theorem dX11_text_42 : decode cX11_text 42 = .ok (.aload_n 0, 1) := by decide +kernel
theorem dX11_text_43 : decode cX11_text 43 = .ok (.getfield 192, 3) := by decide +kernel
theorem dX11_text_46 : decode cX11_text 46 = .ok (.ifCond .ne 13, 3) := by decide +kernel
theorem dX11_text_49 : decode cX11_text 49 = .ok (.aload_n 0, 1) := by decide +kernel
theorem dX11_text_50 : decode cX11_text 50 = .ok (.iconst 0, 1) := by decide +kernel
theorem dX11_text_51 : decode cX11_text 51 = .ok (.iload_n 1, 1) := by decide +kernel
theorem dX11_text_52 : decode cX11_text 52 = .ok (.iload_n 2, 1) := by decide +kernel
theorem dX11_text_53 : decode cX11_text 53 = .ok (.invokevirtual 214, 3) := by decide +kernel
theorem dX11_text_56 : decode cX11_text 56 = .ok (.goto 4, 3) := by decide +kernel
theorem dX11_text_59 : decode cX11_text 59 = .ok (.iconst 0, 1) := by decide +kernel
theorem dX11_text_60 : decode cX11_text 60 = .ok (.ireturn, 1) := by decide +kernel
theorem dX11_remark_0 : decode cX11_remark 0 = .ok (.aload_n 0, 1) := by decide +kernel
theorem dX11_remark_1 : decode cX11_remark 1 = .ok (.iload_n 1, 1) := by decide +kernel
theorem dX11_remark_2 : decode cX11_remark 2 = .ok (.iconst 0, 1) := by decide +kernel
theorem dX11_remark_3 : decode cX11_remark 3 = .ok (.bipush 25, 2) := by decide +kernel
theorem dX11_remark_5 : decode cX11_remark 5 = .ok (.invokestatic 195, 3) := by decide +kernel
theorem dX11_remark_8 : decode cX11_remark 8 = .ok (.ifCond .eq 13, 3) := by decide +kernel
theorem dX11_remark_11 : decode cX11_remark 11 = .ok (.iload_n 2, 1) := by decide +kernel
theorem dX11_remark_12 : decode cX11_remark 12 = .ok (.iconst 1, 1) := by decide +kernel
theorem dX11_remark_13 : decode cX11_remark 13 = .ok (.bipush 20, 2) := by decide +kernel
theorem dX11_remark_15 : decode cX11_remark 15 = .ok (.invokestatic 195, 3) := by decide +kernel
theorem dX11_remark_18 : decode cX11_remark 18 = .ok (.ifCond .ne 7, 3) := by decide +kernel
theorem dX11_remark_21 : decode cX11_remark 21 = .ok (.iconst 1, 1) := by decide +kernel
theorem dX11_remark_22 : decode cX11_remark 22 = .ok (.goto 17, 3) := by decide +kernel
theorem dX11_remark_25 : decode cX11_remark 25 = .ok (.aload_n 0, 1) := by decide +kernel
theorem dX11_remark_26 : decode cX11_remark 26 = .ok (.getfield 188, 3) := by decide +kernel
theorem dX11_remark_29 : decode cX11_remark 29 = .ok (.bipush 60, 2) := by decide +kernel
theorem dX11_remark_31 : decode cX11_remark 31 = .ok (.if_icmp .ne 7, 3) := by decide +kernel
theorem dX11_remark_34 : decode cX11_remark 34 = .ok (.iconst 2, 1) := by decide +kernel
theorem dX11_remark_35 : decode cX11_remark 35 = .ok (.goto 4, 3) := by decide +kernel
theorem dX11_remark_38 : decode cX11_remark 38 = .ok (.iconst 0, 1) := by decide +kernel
theorem dX11_remark_39 : decode cX11_remark 39 = .ok (.putfield 192, 3) := by decide +kernel
theorem dX11_remark_42 : decode cX11_remark 42 = .ok (.aload_n 0, 1) := by decide +kernel
theorem dX11_remark_43 : decode cX11_remark 43 = .ok (.getfield 192, 3) := by decide +kernel
theorem dX11_remark_46 : decode cX11_remark 46 = .ok (.ifCond .ne 13, 3) := by decide +kernel
theorem dX11_remark_49 : decode cX11_remark 49 = .ok (.aload_n 0, 1) := by decide +kernel
theorem dX11_remark_50 : decode cX11_remark 50 = .ok (.iconst 1, 1) := by decide +kernel
theorem dX11_remark_51 : decode cX11_remark 51 = .ok (.iload_n 1, 1) := by decide +kernel
theorem dX11_remark_52 : decode cX11_remark 52 = .ok (.iload_n 2, 1) := by decide +kernel
theorem dX11_remark_53 : decode cX11_remark 53 = .ok (.invokevirtual 214, 3) := by decide +kernel
theorem dX11_remark_56 : decode cX11_remark 56 = .ok (.goto 4, 3) := by decide +kernel
theorem dX11_remark_59 : decode cX11_remark 59 = .ok (.iconst 0, 1) := by decide +kernel
theorem dX11_remark_60 : decode cX11_remark 60 = .ok (.ireturn, 1) := by decide +kernel
theorem dX11_end_0 : decode cX11_end 0 = .ok (.aload_n 0, 1) := by decide +kernel
theorem dX11_end_1 : decode cX11_end 1 = .ok (.aload_n 0, 1) := by decide +kernel
theorem dX11_end_2 : decode cX11_end 2 = .ok (.getfield 188, 3) := by decide +kernel
theorem dX11_end_5 : decode cX11_end 5 = .ok (.bipush 60, 2) := by decide +kernel
theorem dX11_end_7 : decode cX11_end 7 = .ok (.if_icmp .ne 7, 3) := by decide +kernel
theorem dX11_end_10 : decode cX11_end 10 = .ok (.iconst 1, 1) := by decide +kernel
theorem dX11_end_11 : decode cX11_end 11 = .ok (.goto 4, 3) := by decide +kernel
theorem dX11_end_14 : decode cX11_end 14 = .ok (.iconst 0, 1) := by decide +kernel
theorem dX11_end_15 : decode cX11_end 15 = .ok (.putfield 192, 3) := by decide +kernel
theorem dX11_end_18 : decode cX11_end 18 = .ok (.aload_n 0, 1) := by decide +kernel
theorem dX11_end_19 : decode cX11_end 19 = .ok (.getfield 192, 3) := by decide +kernel
theorem dX11_end_22 : decode cX11_end 22 = .ok (.ifCond .ne 13, 3) := by decide +kernel
theorem dX11_end_25 : decode cX11_end 25 = .ok (.aload_n 0, 1) := by decide +kernel
theorem dX11_end_26 : decode cX11_end 26 = .ok (.iload_n 1, 1) := by decide +kernel
theorem dX11_end_27 : decode cX11_end 27 = .ok (.iconst 0, 1) := by decide +kernel
theorem dX11_end_28 : decode cX11_end 28 = .ok (.iconst 0, 1) := by decide +kernel
theorem dX11_end_29 : decode cX11_end 29 = .ok (.invokevirtual 214, 3) := by decide +kernel
theorem dX11_end_32 : decode cX11_end 32 = .ok (.goto 4, 3) := by decide +kernel
theorem dX11_end_35 : decode cX11_end 35 = .ok (.iconst 0, 1) := by decide +kernel
theorem dX11_end_36 : decode cX11_end 36 = .ok (.ireturn, 1) := by decide +kernel
theorem dX11_line_0 : decode cX11_line 0 = .ok (.aload_n 0, 1) := by decide +kernel
theorem dX11_line_1 : decode cX11_line 1 = .ok (.iconst 2, 1) := by decide +kernel
theorem dX11_line_2 : decode cX11_line 2 = .ok (.invokevirtual 218, 3) := by decide +kernel
theorem dX11_line_5 : decode cX11_line 5 = .ok (.ireturn, 1) := by decide +kernel
theorem dX11_soft_0 : decode cX11_soft 0 = .ok (.aload_n 0, 1) := by decide +kernel
theorem dX11_soft_1 : decode cX11_soft 1 = .ok (.iconst 3, 1) := by decide +kernel
theorem dX11_soft_2 : decode cX11_soft 2 = .ok (.invokevirtual 218, 3) := by decide +kernel
theorem dX11_soft_5 : decode cX11_soft 5 = .ok (.ireturn, 1) := by decide +kernel
theorem dX11_hard_0 : decode cX11_hard 0 = .ok (.aload_n 0, 1) := by decide +kernel
theorem dX11_hard_1 : decode cX11_hard 1 = .ok (.iconst 4, 1) := by decide +kernel
theorem dX11_hard_2 : decode cX11_hard 2 = .ok (.invokevirtual 218, 3) := by decide +kernel
theorem dX11_hard_5 : decode cX11_hard 5 = .ok (.ireturn, 1) := by decide +kernel
theorem dX11_tab_0 : decode cX11_tab 0 = .ok (.aload_n 0, 1) := by decide +kernel
theorem dX11_tab_1 : decode cX11_tab 1 = .ok (.iload_n 1, 1) := by decide +kernel
theorem dX11_tab_2 : decode cX11_tab 2 = .ok (.iconst 0, 1) := by decide +kernel
theorem dX11_tab_3 : decode cX11_tab 3 = .ok (.bipush 80, 2) := by decide +kernel
theorem dX11_tab_5 : decode cX11_tab 5 = .ok (.invokestatic 195, 3) := by decide +kernel
theorem dX11_tab_8 : decode cX11_tab 8 = .ok (.ifCond .ne 7, 3) := by decide +kernel
theorem dX11_tab_11 : decode cX11_tab 11 = .ok (.iconst 1, 1) := by decide +kernel
theorem dX11_tab_12 : decode cX11_tab 12 = .ok (.goto 17, 3) := by decide +kernel
theorem dX11_tab_15 : decode cX11_tab 15 = .ok (.aload_n 0, 1) := by decide +kernel
theorem dX11_tab_16 : decode cX11_tab 16 = .ok (.getfield 188, 3) := by decide +kernel
theorem dX11_tab_19 : decode cX11_tab 19 = .ok (.bipush 60, 2) := by decide +kernel
theorem dX11_tab_21 : decode cX11_tab 21 = .ok (.if_icmp .ne 7, 3) := by decide +kernel
theorem dX11_tab_24 : decode cX11_tab 24 = .ok (.iconst 2, 1) := by decide +kernel
theorem dX11_tab_25 : decode cX11_tab 25 = .ok (.goto 4, 3) := by decide +kernel
theorem dX11_tab_28 : decode cX11_tab 28 = .ok (.iconst 0, 1) := by decide +kernel
theorem dX11_tab_29 : decode cX11_tab 29 = .ok (.putfield 192, 3) := by decide +kernel
theorem dX11_tab_32 : decode cX11_tab 32 = .ok (.aload_n 0, 1) := by decide +kernel
theorem dX11_tab_33 : decode cX11_tab 33 = .ok (.getfield 192, 3) := by decide +kernel
theorem dX11_tab_36 : decode cX11_tab 36 = .ok (.ifCond .ne 13, 3) := by decide +kernel
theorem dX11_tab_39 : decode cX11_tab 39 = .ok (.aload_n 0, 1) := by decide +kernel
theorem dX11_tab_40 : decode cX11_tab 40 = .ok (.iconst 5, 1) := by decide +kernel
theorem dX11_tab_41 : decode cX11_tab 41 = .ok (.iload_n 1, 1) := by decide +kernel
theorem dX11_tab_42 : decode cX11_tab 42 = .ok (.iconst 0, 1) := by decide +kernel
theorem dX11_tab_43 : decode cX11_tab 43 = .ok (.invokevirtual 214, 3) := by decide +kernel
theorem dX11_tab_46 : decode cX11_tab 46 = .ok (.goto 4, 3) := by decide +kernel
theorem dX11_tab_49 : decode cX11_tab 49 = .ok (.iconst 0, 1) := by decide +kernel
theorem dX11_tab_50 : decode cX11_tab 50 = .ok (.ireturn, 1) := by decide +kernel
theorem dX11_areNodes_0 : decode cX11_areNodes 0 = .ok (.aload_n 0, 1) := by decide +kernel
theorem dX11_areNodes_1 : decode cX11_areNodes 1 = .ok (.aload_n 0, 1) := by decide +kernel
theorem dX11_areNodes_2 : decode cX11_areNodes 2 = .ok (.iload_n 1, 1) := by decide +kernel
theorem dX11_areNodes_3 : decode cX11_areNodes 3 = .ok (.invokevirtual 222, 3) := by decide +kernel
theorem dX11_areNodes_6 : decode cX11_areNodes 6 = .ok (.ifCond .eq 15, 3) := by decide +kernel
theorem dX11_areNodes_9 : decode cX11_areNodes 9 = .ok (.aload_n 0, 1) := by decide +kernel
theorem dX11_areNodes_10 : decode cX11_areNodes 10 = .ok (.iload_n 2, 1) := by decide +kernel
theorem dX11_areNodes_11 : decode cX11_areNodes 11 = .ok (.invokevirtual 222, 3) := by decide +kernel
theorem dX11_areNodes_14 : decode cX11_areNodes 14 = .ok (.ifCond .eq 7, 3) := by decide +kernel
theorem dX11_areNodes_17 : decode cX11_areNodes 17 = .ok (.iconst 0, 1) := by decide +kernel
theorem dX11_areNodes_18 : decode cX11_areNodes 18 = .ok (.goto 4, 3) := by decide +kernel
theorem dX11_areNodes_21 : decode cX11_areNodes 21 = .ok (.iconst 1, 1) := by decide +kernel
theorem dX11_areNodes_22 : decode cX11_areNodes 22 = .ok (.putfield 192, 3) := by decide +kernel
theorem dX11_areNodes_25 : decode cX11_areNodes 25 = .ok (.aload_n 0, 1) := by decide +kernel
theorem dX11_areNodes_26 : decode cX11_areNodes 26 = .ok (.getfield 192, 3) := by decide +kernel
theorem dX11_areNodes_29 : decode cX11_areNodes 29 = .ok (.ifCond .ne 7, 3) := by decide +kernel
theorem dX11_areNodes_32 : decode cX11_areNodes 32 = .ok (.iconst 1, 1) := by decide +kernel
theorem dX11_areNodes_33 : decode cX11_areNodes 33 = .ok (.goto 4, 3) := by decide +kernel
theorem dX11_areNodes_36 : decode cX11_areNodes 36 = .ok (.iconst 0, 1) := by decide +kernel
theorem dX11_areNodes_37 : decode cX11_areNodes 37 = .ok (.ireturn, 1) := by decide +kernel
theorem dX11_pair_0 : decode cX11_pair 0 = .ok (.aload_n 0, 1) := by decide +kernel
theorem dX11_pair_1 : decode cX11_pair 1 = .ok (.iload_n 1, 1) := by decide +kernel
theorem dX11_pair_2 : decode cX11_pair 2 = .ok (.iload_n 2, 1) := by decide +kernel
theorem dX11_pair_3 : decode cX11_pair 3 = .ok (.invokevirtual 226, 3) := by decide +kernel
theorem dX11_pair_6 : decode cX11_pair 6 = .ok (.ifCond .eq 16, 3) := by decide +kernel
theorem dX11_pair_9 : decode cX11_pair 9 = .ok (.aload_n 0, 1) := by decide +kernel
theorem dX11_pair_10 : decode cX11_pair 10 = .ok (.bipush 6, 2) := by decide +kernel
theorem dX11_pair_12 : decode cX11_pair 12 = .ok (.iconst 0, 1) := by decide +kernel
theorem dX11_pair_13 : decode cX11_pair 13 = .ok (.iload_n 1, 1) := by decide +kernel
theorem dX11_pair_14 : decode cX11_pair 14 = .ok (.iload_n 2, 1) := by decide +kernel
theorem dX11_pair_15 : decode cX11_pair 15 = .ok (.iconst 2, 1) := by decide +kernel
theorem dX11_pair_16 : decode cX11_pair 16 = .ok (.invokevirtual 230, 3) := by decide +kernel
theorem dX11_pair_19 : decode cX11_pair 19 = .ok (.goto 4, 3) := by decide +kernel
theorem dX11_pair_22 : decode cX11_pair 22 = .ok (.iconst 0, 1) := by decide +kernel
theorem dX11_pair_23 : decode cX11_pair 23 = .ok (.ireturn, 1) := by decide +kernel
theorem dX11_isPart_0 : decode cX11_isPart 0 = .ok (.aload_n 0, 1) := by decide +kernel
theorem dX11_isPart_1 : decode cX11_isPart 1 = .ok (.aload_n 0, 1) := by decide +kernel
theorem dX11_isPart_2 : decode cX11_isPart 2 = .ok (.iload_n 1, 1) := by decide +kernel
theorem dX11_isPart_3 : decode cX11_isPart 3 = .ok (.invokevirtual 222, 3) := by decide +kernel
theorem dX11_isPart_6 : decode cX11_isPart 6 = .ok (.ifCond .ne 7, 3) := by decide +kernel
theorem dX11_isPart_9 : decode cX11_isPart 9 = .ok (.iconst 1, 1) := by decide +kernel
theorem dX11_isPart_10 : decode cX11_isPart 10 = .ok (.goto 12, 3) := by decide +kernel
theorem dX11_isPart_13 : decode cX11_isPart 13 = .ok (.iload_n 2, 1) := by decide +kernel
theorem dX11_isPart_14 : decode cX11_isPart 14 = .ok (.ifCond .eq 7, 3) := by decide +kernel
theorem dX11_isPart_17 : decode cX11_isPart 17 = .ok (.iconst 0, 1) := by decide +kernel
theorem dX11_isPart_18 : decode cX11_isPart 18 = .ok (.goto 4, 3) := by decide +kernel
theorem dX11_isPart_21 : decode cX11_isPart 21 = .ok (.iconst 2, 1) := by decide +kernel
theorem dX11_isPart_22 : decode cX11_isPart 22 = .ok (.putfield 192, 3) := by decide +kernel
theorem dX11_isPart_25 : decode cX11_isPart 25 = .ok (.aload_n 0, 1) := by decide +kernel
theorem dX11_isPart_26 : decode cX11_isPart 26 = .ok (.getfield 192, 3) := by decide +kernel
theorem dX11_isPart_29 : decode cX11_isPart 29 = .ok (.ifCond .ne 7, 3) := by decide +kernel
theorem dX11_isPart_32 : decode cX11_isPart 32 = .ok (.iconst 1, 1) := by decide +kernel
theorem dX11_isPart_33 : decode cX11_isPart 33 = .ok (.goto 4, 3) := by decide +kernel
theorem dX11_isPart_36 : decode cX11_isPart 36 = .ok (.iconst 0, 1) := by decide +kernel
theorem dX11_isPart_37 : decode cX11_isPart 37 = .ok (.ireturn, 1) := by decide +kernel
theorem dX11_nest_0 : decode cX11_nest 0 = .ok (.aload_n 0, 1) := by decide +kernel
theorem dX11_nest_1 : decode cX11_nest 1 = .ok (.iload_n 2, 1) := by decide +kernel
theorem dX11_nest_2 : decode cX11_nest 2 = .ok (.iload_n 1, 1) := by decide +kernel
theorem dX11_nest_3 : decode cX11_nest 3 = .ok (.bipush (-20), 2) := by decide +kernel
theorem dX11_nest_5 : decode cX11_nest 5 = .ok (.bipush 20, 2) := by decide +kernel
theorem dX11_nest_7 : decode cX11_nest 7 = .ok (.invokestatic 195, 3) := by decide +kernel
theorem dX11_nest_10 : decode cX11_nest 10 = .ok (.invokevirtual 234, 3) := by decide +kernel
theorem dX11_nest_13 : decode cX11_nest 13 = .ok (.ifCond .eq 16, 3) := by decide +kernel
theorem dX11_nest_16 : decode cX11_nest 16 = .ok (.aload_n 0, 1) := by decide +kernel
theorem dX11_nest_17 : decode cX11_nest 17 = .ok (.bipush 7, 2) := by decide +kernel
theorem dX11_nest_19 : decode cX11_nest 19 = .ok (.iload_n 1, 1) := by decide +kernel
theorem dX11_nest_20 : decode cX11_nest 20 = .ok (.iload_n 2, 1) := by decide +kernel
theorem dX11_nest_21 : decode cX11_nest 21 = .ok (.iconst (-1), 1) := by decide +kernel
theorem dX11_nest_22 : decode cX11_nest 22 = .ok (.iconst 3, 1) := by decide +kernel
theorem dX11_nest_23 : decode cX11_nest 23 = .ok (.invokevirtual 230, 3) := by decide +kernel
theorem dX11_nest_26 : decode cX11_nest 26 = .ok (.goto 4, 3) := by decide +kernel
theorem dX11_nest_29 : decode cX11_nest 29 = .ok (.iconst 0, 1) := by decide +kernel
theorem dX11_nest_30 : decode cX11_nest 30 = .ok (.ireturn, 1) := by decide +kernel
theorem dX11_align_0 : decode cX11_align 0 = .ok (.aload_n 0, 1) := by decide +kernel
theorem dX11_align_1 : decode cX11_align 1 = .ok (.iload_n 1, 1) := by decide +kernel
theorem dX11_align_2 : decode cX11_align 2 = .ok (.iconst 1, 1) := by decide +kernel
theorem dX11_align_3 : decode cX11_align 3 = .ok (.invokevirtual 234, 3) := by decide +kernel
theorem dX11_align_6 : decode cX11_align 6 = .ok (.ifCond .eq 16, 3) := by decide +kernel
theorem dX11_align_9 : decode cX11_align 9 = .ok (.aload_n 0, 1) := by decide +kernel
theorem dX11_align_10 : decode cX11_align 10 = .ok (.bipush 8, 2) := by decide +kernel
theorem dX11_align_12 : decode cX11_align 12 = .ok (.iconst 0, 1) := by decide +kernel
theorem dX11_align_13 : decode cX11_align 13 = .ok (.iload_n 1, 1) := by decide +kernel
theorem dX11_align_14 : decode cX11_align 14 = .ok (.iconst (-1), 1) := by decide +kernel
theorem dX11_align_15 : decode cX11_align 15 = .ok (.iconst 2, 1) := by decide +kernel
theorem dX11_align_16 : decode cX11_align 16 = .ok (.invokevirtual 230, 3) := by decide +kernel
theorem dX11_align_19 : decode cX11_align 19 = .ok (.goto 4, 3) := by decide +kernel
theorem dX11_align_22 : decode cX11_align 22 = .ok (.iconst 0, 1) := by decide +kernel
theorem dX11_align_23 : decode cX11_align 23 = .ok (.ireturn, 1) := by decide +kernel
theorem dX11_group_0 : decode cX11_group 0 = .ok (.aload_n 0, 1) := by decide +kernel
theorem dX11_group_1 : decode cX11_group 1 = .ok (.iload_n 1, 1) := by decide +kernel
theorem dX11_group_2 : decode cX11_group 2 = .ok (.iconst 1, 1) := by decide +kernel
theorem dX11_group_3 : decode cX11_group 3 = .ok (.invokevirtual 234, 3) := by decide +kernel
theorem dX11_group_6 : decode cX11_group 6 = .ok (.ifCond .eq 16, 3) := by decide +kernel
theorem dX11_group_9 : decode cX11_group 9 = .ok (.aload_n 0, 1) := by decide +kernel
theorem dX11_group_10 : decode cX11_group 10 = .ok (.bipush 9, 2) := by decide +kernel
theorem dX11_group_12 : decode cX11_group 12 = .ok (.iconst 0, 1) := by decide +kernel
theorem dX11_group_13 : decode cX11_group 13 = .ok (.iload_n 1, 1) := by decide +kernel
theorem dX11_group_14 : decode cX11_group 14 = .ok (.iconst (-1), 1) := by decide +kernel
theorem dX11_group_15 : decode cX11_group 15 = .ok (.iconst 2, 1) := by decide +kernel
theorem dX11_group_16 : decode cX11_group 16 = .ok (.invokevirtual 230, 3) := by decide +kernel
theorem dX11_group_19 : decode cX11_group 19 = .ok (.goto 4, 3) := by decide +kernel
theorem dX11_group_22 : decode cX11_group 22 = .ok (.iconst 0, 1) := by decide +kernel
theorem dX11_group_23 : decode cX11_group 23 = .ok (.ireturn, 1) := by decide +kernel
theorem dX11_choice_0 : decode cX11_choice 0 = .ok (.aload_n 0, 1) := by decide +kernel
theorem dX11_choice_1 : decode cX11_choice 1 = .ok (.iload_n 1, 1) := by decide +kernel
theorem dX11_choice_2 : decode cX11_choice 2 = .ok (.iload_n 2, 1) := by decide +kernel
theorem dX11_choice_3 : decode cX11_choice 3 = .ok (.invokevirtual 226, 3) := by decide +kernel
theorem dX11_choice_6 : decode cX11_choice 6 = .ok (.ifCond .eq 16, 3) := by decide +kernel
theorem dX11_choice_9 : decode cX11_choice 9 = .ok (.aload_n 0, 1) := by decide +kernel
theorem dX11_choice_10 : decode cX11_choice 10 = .ok (.bipush 10, 2) := by decide +kernel
theorem dX11_choice_12 : decode cX11_choice 12 = .ok (.iconst 0, 1) := by decide +kernel
theorem dX11_choice_13 : decode cX11_choice 13 = .ok (.iload_n 1, 1) := by decide +kernel
theorem dX11_choice_14 : decode cX11_choice 14 = .ok (.iload_n 2, 1) := by decide +kernel
theorem dX11_choice_15 : decode cX11_choice 15 = .ok (.iconst 2, 1) := by decide +kernel
theorem dX11_choice_16 : decode cX11_choice 16 = .ok (.invokevirtual 230, 3) := by decide +kernel
theorem dX11_choice_19 : decode cX11_choice 19 = .ok (.goto 4, 3) := by decide +kernel
theorem dX11_choice_22 : decode cX11_choice 22 = .ok (.iconst 0, 1) := by decide +kernel
theorem dX11_choice_23 : decode cX11_choice 23 = .ok (.ireturn, 1) := by decide +kernel
theorem dX11_flat_0 : decode cX11_flat 0 = .ok (.aload_n 0, 1) := by decide +kernel
theorem dX11_flat_1 : decode cX11_flat 1 = .ok (.iload_n 1, 1) := by decide +kernel
theorem dX11_flat_2 : decode cX11_flat 2 = .ok (.iconst 1, 1) := by decide +kernel
theorem dX11_flat_3 : decode cX11_flat 3 = .ok (.invokevirtual 234, 3) := by decide +kernel
theorem dX11_flat_6 : decode cX11_flat 6 = .ok (.ifCond .eq 16, 3) := by decide +kernel
theorem dX11_flat_9 : decode cX11_flat 9 = .ok (.aload_n 0, 1) := by decide +kernel
theorem dX11_flat_10 : decode cX11_flat 10 = .ok (.bipush 11, 2) := by decide +kernel
theorem dX11_flat_12 : decode cX11_flat 12 = .ok (.iconst 0, 1) := by decide +kernel
theorem dX11_flat_13 : decode cX11_flat 13 = .ok (.iload_n 1, 1) := by decide +kernel
theorem dX11_flat_14 : decode cX11_flat 14 = .ok (.iconst (-1), 1) := by decide +kernel
theorem dX11_flat_15 : decode cX11_flat 15 = .ok (.iconst 2, 1) := by decide +kernel
theorem dX11_flat_16 : decode cX11_flat 16 = .ok (.invokevirtual 230, 3) := by decide +kernel
theorem dX11_flat_19 : decode cX11_flat 19 = .ok (.goto 4, 3) := by decide +kernel
theorem dX11_flat_22 : decode cX11_flat 22 = .ok (.iconst 0, 1) := by decide +kernel
theorem dX11_flat_23 : decode cX11_flat 23 = .ok (.ireturn, 1) := by decide +kernel
theorem dX11_broken_0 : decode cX11_broken 0 = .ok (.aload_n 0, 1) := by decide +kernel
theorem dX11_broken_1 : decode cX11_broken 1 = .ok (.iload_n 1, 1) := by decide +kernel
theorem dX11_broken_2 : decode cX11_broken 2 = .ok (.iload_n 2, 1) := by decide +kernel
theorem dX11_broken_3 : decode cX11_broken 3 = .ok (.invokevirtual 226, 3) := by decide +kernel
theorem dX11_broken_6 : decode cX11_broken 6 = .ok (.ifCond .eq 16, 3) := by decide +kernel
theorem dX11_broken_9 : decode cX11_broken 9 = .ok (.aload_n 0, 1) := by decide +kernel
theorem dX11_broken_10 : decode cX11_broken 10 = .ok (.bipush 12, 2) := by decide +kernel
theorem dX11_broken_12 : decode cX11_broken 12 = .ok (.iconst 0, 1) := by decide +kernel
theorem dX11_broken_13 : decode cX11_broken 13 = .ok (.iload_n 1, 1) := by decide +kernel
theorem dX11_broken_14 : decode cX11_broken 14 = .ok (.iload_n 2, 1) := by decide +kernel
theorem dX11_broken_15 : decode cX11_broken 15 = .ok (.iconst 2, 1) := by decide +kernel
theorem dX11_broken_16 : decode cX11_broken 16 = .ok (.invokevirtual 230, 3) := by decide +kernel
theorem dX11_broken_19 : decode cX11_broken 19 = .ok (.goto 4, 3) := by decide +kernel
theorem dX11_broken_22 : decode cX11_broken 22 = .ok (.iconst 0, 1) := by decide +kernel
theorem dX11_broken_23 : decode cX11_broken 23 = .ok (.ireturn, 1) := by decide +kernel
theorem dX11_price_0 : decode cX11_price 0 = .ok (.aload_n 0, 1) := by decide +kernel
theorem dX11_price_1 : decode cX11_price 1 = .ok (.iload_n 2, 1) := by decide +kernel
theorem dX11_price_2 : decode cX11_price 2 = .ok (.iload_n 1, 1) := by decide +kernel
theorem dX11_price_3 : decode cX11_price 3 = .ok (.iconst 0, 1) := by decide +kernel
theorem dX11_price_4 : decode cX11_price 4 = .ok (.sipush 1000, 3) := by decide +kernel
theorem dX11_price_7 : decode cX11_price 7 = .ok (.invokestatic 195, 3) := by decide +kernel
theorem dX11_price_10 : decode cX11_price 10 = .ok (.invokevirtual 234, 3) := by decide +kernel
theorem dX11_price_13 : decode cX11_price 13 = .ok (.ifCond .eq 16, 3) := by decide +kernel
theorem dX11_price_16 : decode cX11_price 16 = .ok (.aload_n 0, 1) := by decide +kernel
theorem dX11_price_17 : decode cX11_price 17 = .ok (.bipush 13, 2) := by decide +kernel
theorem dX11_price_19 : decode cX11_price 19 = .ok (.iload_n 1, 1) := by decide +kernel
theorem dX11_price_20 : decode cX11_price 20 = .ok (.iload_n 2, 1) := by decide +kernel
theorem dX11_price_21 : decode cX11_price 21 = .ok (.iconst (-1), 1) := by decide +kernel
theorem dX11_price_22 : decode cX11_price 22 = .ok (.iconst 3, 1) := by decide +kernel
theorem dX11_price_23 : decode cX11_price 23 = .ok (.invokevirtual 230, 3) := by decide +kernel
theorem dX11_price_26 : decode cX11_price 26 = .ok (.goto 4, 3) := by decide +kernel
theorem dX11_price_29 : decode cX11_price 29 = .ok (.iconst 0, 1) := by decide +kernel
theorem dX11_price_30 : decode cX11_price 30 = .ok (.ireturn, 1) := by decide +kernel
theorem dX11_keep_0 : decode cX11_keep 0 = .ok (.aload_n 0, 1) := by decide +kernel
theorem dX11_keep_1 : decode cX11_keep 1 = .ok (.iload_n 2, 1) := by decide +kernel
