theorem dX8_init_282 : decode cX8_init 282 = .ok (.newarray .int, 2) := by decide +kernel
theorem dX8_init_284 : decode cX8_init 284 = .ok (.putfield 108, 3) := by decide +kernel
theorem dX8_init_287 : decode cX8_init 287 = .ok (.aload_n 0, 1) := by decide +kernel
theorem dX8_init_288 : decode cX8_init 288 = .ok (.iconst 5, 1) := by decide +kernel
theorem dX8_init_289 : decode cX8_init 289 = .ok (.newarray .int, 2) := by decide +kernel
theorem dX8_init_291 : decode cX8_init 291 = .ok (.putfield 111, 3) := by decide +kernel
theorem dX8_init_294 : decode cX8_init 294 = .ok (.aload_n 0, 1) := by decide +kernel
theorem dX8_init_295 : decode cX8_init 295 = .ok (.bipush 6, 2) := by decide +kernel
theorem dX8_init_297 : decode cX8_init 297 = .ok (.newarray .int, 2) := by decide +kernel
theorem dX8_init_299 : decode cX8_init 299 = .ok (.putfield 114, 3) := by decide +kernel
theorem dX8_init_302 : decode cX8_init 302 = .ok (.aload_n 0, 1) := by decide +kernel
theorem dX8_init_303 : decode cX8_init 303 = .ok (.bipush 8, 2) := by decide +kernel
theorem dX8_init_305 : decode cX8_init 305 = .ok (.newarray .int, 2) := by decide +kernel
theorem dX8_init_307 : decode cX8_init 307 = .ok (.putfield 117, 3) := by decide +kernel
theorem dX8_init_310 : decode cX8_init 310 = .ok (.aload_n 0, 1) := by decide +kernel
theorem dX8_init_311 : decode cX8_init 311 = .ok (.iconst 3, 1) := by decide +kernel
theorem dX8_init_312 : decode cX8_init 312 = .ok (.newarray .int, 2) := by decide +kernel
theorem dX8_init_314 : decode cX8_init 314 = .ok (.putfield 120, 3) := by decide +kernel
theorem dX8_init_317 : decode cX8_init 317 = .ok (.iconst 0, 1) := by decide +kernel
theorem dX8_init_318 : decode cX8_init 318 = .ok (.istore_n 1, 1) := by decide +kernel
theorem dX8_init_319 : decode cX8_init 319 = .ok (.iload_n 1, 1) := by decide +kernel
theorem dX8_init_320 : decode cX8_init 320 = .ok (.bipush 12, 2) := by decide +kernel
theorem dX8_init_322 : decode cX8_init 322 = .ok (.if_icmp .ge 16, 3) := by decide +kernel
theorem dX8_init_325 : decode cX8_init 325 = .ok (.aload_n 0, 1) := by decide +kernel
theorem dX8_init_326 : decode cX8_init 326 = .ok (.getfield 99, 3) := by decide +kernel
theorem dX8_init_329 : decode cX8_init 329 = .ok (.iload_n 1, 1) := by decide +kernel
theorem dX8_init_330 : decode cX8_init 330 = .ok (.iconst 4, 1) := by decide +kernel
theorem dX8_init_331 : decode cX8_init 331 = .ok (.iastore, 1) := by decide +kernel
theorem dX8_init_332 : decode cX8_init 332 = .ok (.iinc 1 1, 3) := by decide +kernel
theorem dX8_init_335 : decode cX8_init 335 = .ok (.goto (-16), 3) := by decide +kernel
theorem dX8_init_338 : decode cX8_init 338 = .ok (.iconst 0, 1) := by decide +kernel
theorem dX8_init_339 : decode cX8_init 339 = .ok (.istore_n 1, 1) := by decide +kernel
theorem dX8_init_340 : decode cX8_init 340 = .ok (.iload_n 1, 1) := by decide +kernel
theorem dX8_init_341 : decode cX8_init 341 = .ok (.iconst 5, 1) := by decide +kernel
theorem dX8_init_342 : decode cX8_init 342 = .ok (.if_icmp .ge 39, 3) := by decide +kernel
theorem dX8_init_345 : decode cX8_init 345 = .ok (.aload_n 0, 1) := by decide +kernel
theorem dX8_init_346 : decode cX8_init 346 = .ok (.getfield 105, 3) := by decide +kernel
theorem dX8_init_349 : decode cX8_init 349 = .ok (.iload_n 1, 1) := by decide +kernel
theorem dX8_init_350 : decode cX8_init 350 = .ok (.bipush 100, 2) := by decide +kernel
theorem dX8_init_352 : decode cX8_init 352 = .ok (.iload_n 1, 1) := by decide +kernel
theorem dX8_init_353 : decode cX8_init 353 = .ok (.imul, 1) := by decide +kernel
theorem dX8_init_354 : decode cX8_init 354 = .ok (.iastore, 1) := by decide +kernel
theorem dX8_init_355 : decode cX8_init 355 = .ok (.aload_n 0, 1) := by decide +kernel
theorem dX8_init_356 : decode cX8_init 356 = .ok (.getfield 108, 3) := by decide +kernel
theorem dX8_init_359 : decode cX8_init 359 = .ok (.iload_n 1, 1) := by decide +kernel
theorem dX8_init_360 : decode cX8_init 360 = .ok (.bipush 50, 2) := by decide +kernel
theorem dX8_init_362 : decode cX8_init 362 = .ok (.iload_n 1, 1) := by decide +kernel
theorem dX8_init_363 : decode cX8_init 363 = .ok (.imul, 1) := by decide +kernel
theorem dX8_init_364 : decode cX8_init 364 = .ok (.iastore, 1) := by decide +kernel
theorem dX8_init_365 : decode cX8_init 365 = .ok (.aload_n 0, 1) := by decide +kernel
theorem dX8_init_366 : decode cX8_init 366 = .ok (.getfield 111, 3) := by decide +kernel
theorem dX8_init_369 : decode cX8_init 369 = .ok (.iload_n 1, 1) := by decide +kernel
theorem dX8_init_370 : decode cX8_init 370 = .ok (.bipush 80, 2) := by decide +kernel
theorem dX8_init_372 : decode cX8_init 372 = .ok (.iload_n 1, 1) := by decide +kernel
theorem dX8_init_373 : decode cX8_init 373 = .ok (.imul, 1) := by decide +kernel
theorem dX8_init_374 : decode cX8_init 374 = .ok (.iastore, 1) := by decide +kernel
theorem dX8_init_375 : decode cX8_init 375 = .ok (.iinc 1 1, 3) := by decide +kernel
theorem dX8_init_378 : decode cX8_init 378 = .ok (.goto (-38), 3) := by decide +kernel
theorem dX8_init_381 : decode cX8_init 381 = .ok (.return_, 1) := by decide +kernel
theorem dX8_in_0 : decode cX8_in 0 = .ok (.iload_n 0, 1) := by decide +kernel
theorem dX8_in_1 : decode cX8_in 1 = .ok (.iload_n 1, 1) := by decide +kernel
theorem dX8_in_2 : decode cX8_in 2 = .ok (.if_icmp .lt 12, 3) := by decide +kernel
theorem dX8_in_5 : decode cX8_in 5 = .ok (.iload_n 0, 1) := by decide +kernel
theorem dX8_in_6 : decode cX8_in 6 = .ok (.iload_n 2, 1) := by decide +kernel
theorem dX8_in_7 : decode cX8_in 7 = .ok (.if_icmp .gt 7, 3) := by decide +kernel
theorem dX8_in_10 : decode cX8_in 10 = .ok (.iconst 1, 1) := by decide +kernel
theorem dX8_in_11 : decode cX8_in 11 = .ok (.goto 4, 3) := by decide +kernel
theorem dX8_in_14 : decode cX8_in 14 = .ok (.iconst 0, 1) := by decide +kernel
theorem dX8_in_15 : decode cX8_in 15 = .ok (.ireturn, 1) := by decide +kernel
theorem dX8_buy_0 : decode cX8_buy 0 = .ok (.iload_n 1, 1) := by decide +kernel
theorem dX8_buy_1 : decode cX8_buy 1 = .ok (.iconst 0, 1) := by decide +kernel
theorem dX8_buy_2 : decode cX8_buy 2 = .ok (.iconst 5, 1) := by decide +kernel
theorem dX8_buy_3 : decode cX8_buy 3 = .ok (.invokestatic 123, 3) := by decide +kernel
theorem dX8_buy_6 : decode cX8_buy 6 = .ok (.ifCond .eq 14, 3) := by decide +kernel
theorem dX8_buy_9 : decode cX8_buy 9 = .ok (.iload_n 2, 1) := by decide +kernel
theorem dX8_buy_10 : decode cX8_buy 10 = .ok (.iconst 0, 1) := by decide +kernel
theorem dX8_buy_11 : decode cX8_buy 11 = .ok (.sipush 10000, 3) := by decide +kernel
theorem dX8_buy_14 : decode cX8_buy 14 = .ok (.invokestatic 123, 3) := by decide +kernel
theorem dX8_buy_17 : decode cX8_buy 17 = .ok (.ifCond .ne 6, 3) := by decide +kernel
theorem dX8_buy_20 : decode cX8_buy 20 = .ok (.bipush (-2), 2) := by decide +kernel
theorem dX8_buy_22 : decode cX8_buy 22 = .ok (.ireturn, 1) := by decide +kernel
theorem dX8_buy_23 : decode cX8_buy 23 = .ok (.aload_n 0, 1) := by decide +kernel
theorem dX8_buy_24 : decode cX8_buy 24 = .ok (.getfield 7, 3) := by decide +kernel
theorem dX8_buy_27 : decode cX8_buy 27 = .ok (.iload_n 1, 1) := by decide +kernel
theorem dX8_buy_28 : decode cX8_buy 28 = .ok (.iaload, 1) := by decide +kernel
theorem dX8_buy_29 : decode cX8_buy 29 = .ok (.iload_n 2, 1) := by decide +kernel
theorem dX8_buy_30 : decode cX8_buy 30 = .ok (.iadd, 1) := by decide +kernel
theorem dX8_buy_31 : decode cX8_buy 31 = .ok (.sipush 10000, 3) := by decide +kernel
theorem dX8_buy_34 : decode cX8_buy 34 = .ok (.if_icmp .le 6, 3) := by decide +kernel
theorem dX8_buy_37 : decode cX8_buy 37 = .ok (.bipush (-3), 2) := by decide +kernel
theorem dX8_buy_39 : decode cX8_buy 39 = .ok (.ireturn, 1) := by decide +kernel
theorem dX8_buy_40 : decode cX8_buy 40 = .ok (.aload_n 0, 1) := by decide +kernel
theorem dX8_buy_41 : decode cX8_buy 41 = .ok (.getfield 7, 3) := by decide +kernel
theorem dX8_buy_44 : decode cX8_buy 44 = .ok (.iload_n 1, 1) := by decide +kernel
theorem dX8_buy_45 : decode cX8_buy 45 = .ok (.dup2, 1) := by decide +kernel
theorem dX8_buy_46 : decode cX8_buy 46 = .ok (.iaload, 1) := by decide +kernel
theorem dX8_buy_47 : decode cX8_buy 47 = .ok (.iload_n 2, 1) := by decide +kernel
theorem dX8_buy_48 : decode cX8_buy 48 = .ok (.iadd, 1) := by decide +kernel
theorem dX8_buy_49 : decode cX8_buy 49 = .ok (.iastore, 1) := by decide +kernel
theorem dX8_buy_50 : decode cX8_buy 50 = .ok (.aload_n 0, 1) := by decide +kernel
theorem dX8_buy_51 : decode cX8_buy 51 = .ok (.getfield 7, 3) := by decide +kernel
theorem dX8_buy_54 : decode cX8_buy 54 = .ok (.iload_n 1, 1) := by decide +kernel
theorem dX8_buy_55 : decode cX8_buy 55 = .ok (.iaload, 1) := by decide +kernel
theorem dX8_buy_56 : decode cX8_buy 56 = .ok (.ireturn, 1) := by decide +kernel
theorem dX8_store_0 : decode cX8_store 0 = .ok (.iload_n 1, 1) := by decide +kernel
theorem dX8_store_1 : decode cX8_store 1 = .ok (.iconst 0, 1) := by decide +kernel
theorem dX8_store_2 : decode cX8_store 2 = .ok (.iconst 5, 1) := by decide +kernel
theorem dX8_store_3 : decode cX8_store 3 = .ok (.invokestatic 123, 3) := by decide +kernel
theorem dX8_store_6 : decode cX8_store 6 = .ok (.ifCond .eq 12, 3) := by decide +kernel
theorem dX8_store_9 : decode cX8_store 9 = .ok (.aload_n 0, 1) := by decide +kernel
theorem dX8_store_10 : decode cX8_store 10 = .ok (.getfield 7, 3) := by decide +kernel
theorem dX8_store_13 : decode cX8_store 13 = .ok (.iload_n 1, 1) := by decide +kernel
theorem dX8_store_14 : decode cX8_store 14 = .ok (.iaload, 1) := by decide +kernel
theorem dX8_store_15 : decode cX8_store 15 = .ok (.goto 5, 3) := by decide +kernel
theorem dX8_store_18 : decode cX8_store 18 = .ok (.bipush (-2), 2) := by decide +kernel
theorem dX8_store_20 : decode cX8_store 20 = .ok (.ireturn, 1) := by decide +kernel
theorem dX8_rich_0 : decode cX8_rich 0 = .ok (.iload_n 1, 1) := by decide +kernel
theorem dX8_rich_1 : decode cX8_rich 1 = .ok (.iconst 0, 1) := by decide +kernel
theorem dX8_rich_2 : decode cX8_rich 2 = .ok (.iconst 3, 1) := by decide +kernel
theorem dX8_rich_3 : decode cX8_rich 3 = .ok (.invokestatic 123, 3) := by decide +kernel
theorem dX8_rich_6 : decode cX8_rich 6 = .ok (.ifCond .eq 14, 3) := by decide +kernel
theorem dX8_rich_9 : decode cX8_rich 9 = .ok (.iload_n 2, 1) := by decide +kernel
theorem dX8_rich_10 : decode cX8_rich 10 = .ok (.bipush 10, 2) := by decide +kernel
theorem dX8_rich_12 : decode cX8_rich 12 = .ok (.bipush 60, 2) := by decide +kernel
theorem dX8_rich_14 : decode cX8_rich 14 = .ok (.invokestatic 123, 3) := by decide +kernel
theorem dX8_rich_17 : decode cX8_rich 17 = .ok (.ifCond .ne 6, 3) := by decide +kernel
theorem dX8_rich_20 : decode cX8_rich 20 = .ok (.bipush (-2), 2) := by decide +kernel
theorem dX8_rich_22 : decode cX8_rich 22 = .ok (.ireturn, 1) := by decide +kernel
theorem dX8_rich_23 : decode cX8_rich 23 = .ok (.aload_n 0, 1) := by decide +kernel
theorem dX8_rich_24 : decode cX8_rich 24 = .ok (.getfield 13, 3) := by decide +kernel
theorem dX8_rich_27 : decode cX8_rich 27 = .ok (.iload_n 1, 1) := by decide +kernel
theorem dX8_rich_28 : decode cX8_rich 28 = .ok (.iaload, 1) := by decide +kernel
theorem dX8_rich_29 : decode cX8_rich 29 = .ok (.istore_n 3, 1) := by decide +kernel
theorem dX8_rich_30 : decode cX8_rich 30 = .ok (.aload_n 0, 1) := by decide +kernel
theorem dX8_rich_31 : decode cX8_rich 31 = .ok (.getfield 13, 3) := by decide +kernel
theorem dX8_rich_34 : decode cX8_rich 34 = .ok (.iload_n 1, 1) := by decide +kernel
theorem dX8_rich_35 : decode cX8_rich 35 = .ok (.iload_n 2, 1) := by decide +kernel
theorem dX8_rich_36 : decode cX8_rich 36 = .ok (.iastore, 1) := by decide +kernel
theorem dX8_rich_37 : decode cX8_rich 37 = .ok (.iload_n 3, 1) := by decide +kernel
theorem dX8_rich_38 : decode cX8_rich 38 = .ok (.ireturn, 1) := by decide +kernel
theorem dX8_charge_0 : decode cX8_charge 0 = .ok (.iload_n 1, 1) := by decide +kernel
theorem dX8_charge_1 : decode cX8_charge 1 = .ok (.iconst 1, 1) := by decide +kernel
theorem dX8_charge_2 : decode cX8_charge 2 = .ok (.bipush 60, 2) := by decide +kernel
theorem dX8_charge_4 : decode cX8_charge 4 = .ok (.invokestatic 123, 3) := by decide +kernel
theorem dX8_charge_7 : decode cX8_charge 7 = .ok (.ifCond .eq 33, 3) := by decide +kernel
theorem dX8_charge_10 : decode cX8_charge 10 = .ok (.iload_n 2, 1) := by decide +kernel
theorem dX8_charge_11 : decode cX8_charge 11 = .ok (.iconst 0, 1) := by decide +kernel
theorem dX8_charge_12 : decode cX8_charge 12 = .ok (.iconst 3, 1) := by decide +kernel
theorem dX8_charge_13 : decode cX8_charge 13 = .ok (.invokestatic 123, 3) := by decide +kernel
theorem dX8_charge_16 : decode cX8_charge 16 = .ok (.ifCond .eq 24, 3) := by decide +kernel
theorem dX8_charge_19 : decode cX8_charge 19 = .ok (.iload_n 3, 1) := by decide +kernel
theorem dX8_charge_20 : decode cX8_charge 20 = .ok (.iconst 0, 1) := by decide +kernel
theorem dX8_charge_21 : decode cX8_charge 21 = .ok (.bipush 60, 2) := by decide +kernel
theorem dX8_charge_23 : decode cX8_charge 23 = .ok (.invokestatic 123, 3) := by decide +kernel
theorem dX8_charge_26 : decode cX8_charge 26 = .ok (.ifCond .eq 14, 3) := by decide +kernel
theorem dX8_charge_29 : decode cX8_charge 29 = .ok (.iload 4, 2) := by decide +kernel
theorem dX8_charge_31 : decode cX8_charge 31 = .ok (.iconst 0, 1) := by decide +kernel
theorem dX8_charge_32 : decode cX8_charge 32 = .ok (.bipush 30, 2) := by decide +kernel
theorem dX8_charge_34 : decode cX8_charge 34 = .ok (.invokestatic 123, 3) := by decide +kernel
theorem dX8_charge_37 : decode cX8_charge 37 = .ok (.ifCond .ne 6, 3) := by decide +kernel
theorem dX8_charge_40 : decode cX8_charge 40 = .ok (.bipush (-2), 2) := by decide +kernel
theorem dX8_charge_42 : decode cX8_charge 42 = .ok (.ireturn, 1) := by decide +kernel
theorem dX8_charge_43 : decode cX8_charge 43 = .ok (.aload_n 0, 1) := by decide +kernel
theorem dX8_charge_44 : decode cX8_charge 44 = .ok (.getfield 7, 3) := by decide +kernel
theorem dX8_charge_47 : decode cX8_charge 47 = .ok (.iconst 0, 1) := by decide +kernel
theorem dX8_charge_48 : decode cX8_charge 48 = .ok (.iaload, 1) := by decide +kernel
theorem dX8_charge_49 : decode cX8_charge 49 = .ok (.iload_n 1, 1) := by decide +kernel
theorem dX8_charge_50 : decode cX8_charge 50 = .ok (.if_icmp .lt 26, 3) := by decide +kernel
theorem dX8_charge_53 : decode cX8_charge 53 = .ok (.aload_n 0, 1) := by decide +kernel
theorem dX8_charge_54 : decode cX8_charge 54 = .ok (.getfield 7, 3) := by decide +kernel
theorem dX8_charge_57 : decode cX8_charge 57 = .ok (.iconst 1, 1) := by decide +kernel
theorem dX8_charge_58 : decode cX8_charge 58 = .ok (.iaload, 1) := by decide +kernel
theorem dX8_charge_59 : decode cX8_charge 59 = .ok (.iload 4, 2) := by decide +kernel
theorem dX8_charge_61 : decode cX8_charge 61 = .ok (.if_icmp .lt 15, 3) := by decide +kernel
theorem dX8_charge_64 : decode cX8_charge 64 = .ok (.aload_n 0, 1) := by decide +kernel
theorem dX8_charge_65 : decode cX8_charge 65 = .ok (.getfield 7, 3) := by decide +kernel
theorem dX8_charge_68 : decode cX8_charge 68 = .ok (.iconst 2, 1) := by decide +kernel
theorem dX8_charge_69 : decode cX8_charge 69 = .ok (.iload_n 2, 1) := by decide +kernel
theorem dX8_charge_70 : decode cX8_charge 70 = .ok (.iadd, 1) := by decide +kernel
theorem dX8_charge_71 : decode cX8_charge 71 = .ok (.iaload, 1) := by decide +kernel
theorem dX8_charge_72 : decode cX8_charge 72 = .ok (.iload_n 3, 1) := by decide +kernel
theorem dX8_charge_73 : decode cX8_charge 73 = .ok (.if_icmp .ge 6, 3) := by decide +kernel
theorem dX8_charge_76 : decode cX8_charge 76 = .ok (.bipush (-3), 2) := by decide +kernel
theorem dX8_charge_78 : decode cX8_charge 78 = .ok (.ireturn, 1) := by decide +kernel
theorem dX8_charge_79 : decode cX8_charge 79 = .ok (.aload_n 0, 1) := by decide +kernel
theorem dX8_charge_80 : decode cX8_charge 80 = .ok (.getfield 127, 3) := by decide +kernel
theorem dX8_charge_83 : decode cX8_charge 83 = .ok (.aload_n 0, 1) := by decide +kernel
theorem dX8_charge_84 : decode cX8_charge 84 = .ok (.getfield 130, 3) := by decide +kernel
theorem dX8_charge_87 : decode cX8_charge 87 = .ok (.isub, 1) := by decide +kernel
theorem dX8_charge_88 : decode cX8_charge 88 = .ok (.bipush 12, 2) := by decide +kernel
theorem dX8_charge_90 : decode cX8_charge 90 = .ok (.if_icmp .eq 13, 3) := by decide +kernel
theorem dX8_charge_93 : decode cX8_charge 93 = .ok (.aload_n 0, 1) := by decide +kernel
theorem dX8_charge_94 : decode cX8_charge 94 = .ok (.getfield 127, 3) := by decide +kernel
theorem dX8_charge_97 : decode cX8_charge 97 = .ok (.sipush 400, 3) := by decide +kernel
theorem dX8_charge_100 : decode cX8_charge 100 = .ok (.if_icmp .ne 6, 3) := by decide +kernel
theorem dX8_charge_103 : decode cX8_charge 103 = .ok (.bipush (-4), 2) := by decide +kernel
theorem dX8_charge_105 : decode cX8_charge 105 = .ok (.ireturn, 1) := by decide +kernel
theorem dX8_charge_106 : decode cX8_charge 106 = .ok (.aload_n 0, 1) := by decide +kernel
theorem dX8_charge_107 : decode cX8_charge 107 = .ok (.getfield 7, 3) := by decide +kernel
theorem dX8_charge_110 : decode cX8_charge 110 = .ok (.iconst 0, 1) := by decide +kernel
theorem dX8_charge_111 : decode cX8_charge 111 = .ok (.dup2, 1) := by decide +kernel
theorem dX8_charge_112 : decode cX8_charge 112 = .ok (.iaload, 1) := by decide +kernel
theorem dX8_charge_113 : decode cX8_charge 113 = .ok (.iload_n 1, 1) := by decide +kernel
theorem dX8_charge_114 : decode cX8_charge 114 = .ok (.isub, 1) := by decide +kernel
theorem dX8_charge_115 : decode cX8_charge 115 = .ok (.iastore, 1) := by decide +kernel
theorem dX8_charge_116 : decode cX8_charge 116 = .ok (.aload_n 0, 1) := by decide +kernel
theorem dX8_charge_117 : decode cX8_charge 117 = .ok (.getfield 7, 3) := by decide +kernel
theorem dX8_charge_120 : decode cX8_charge 120 = .ok (.iconst 1, 1) := by decide +kernel
theorem dX8_charge_121 : decode cX8_charge 121 = .ok (.dup2, 1) := by decide +kernel
theorem dX8_charge_122 : decode cX8_charge 122 = .ok (.iaload, 1) := by decide +kernel
theorem dX8_charge_123 : decode cX8_charge 123 = .ok (.iload 4, 2) := by decide +kernel
theorem dX8_charge_125 : decode cX8_charge 125 = .ok (.isub, 1) := by decide +kernel
theorem dX8_charge_126 : decode cX8_charge 126 = .ok (.iastore, 1) := by decide +kernel
theorem dX8_charge_127 : decode cX8_charge 127 = .ok (.aload_n 0, 1) := by decide +kernel
theorem dX8_charge_128 : decode cX8_charge 128 = .ok (.getfield 7, 3) := by decide +kernel
theorem dX8_charge_131 : decode cX8_charge 131 = .ok (.iconst 2, 1) := by decide +kernel
theorem dX8_charge_132 : decode cX8_charge 132 = .ok (.iload_n 2, 1) := by decide +kernel
theorem dX8_charge_133 : decode cX8_charge 133 = .ok (.iadd, 1) := by decide +kernel
theorem dX8_charge_134 : decode cX8_charge 134 = .ok (.dup2, 1) := by decide +kernel
theorem dX8_charge_135 : decode cX8_charge 135 = .ok (.iaload, 1) := by decide +kernel
theorem dX8_charge_136 : decode cX8_charge 136 = .ok (.iload_n 3, 1) := by decide +kernel
theorem dX8_charge_137 : decode cX8_charge 137 = .ok (.isub, 1) := by decide +kernel
theorem dX8_charge_138 : decode cX8_charge 138 = .ok (.iastore, 1) := by decide +kernel
theorem dX8_charge_139 : decode cX8_charge 139 = .ok (.aload_n 0, 1) := by decide +kernel
theorem dX8_charge_140 : decode cX8_charge 140 = .ok (.getfield 16, 3) := by decide +kernel
theorem dX8_charge_143 : decode cX8_charge 143 = .ok (.aload_n 0, 1) := by decide +kernel
theorem dX8_charge_144 : decode cX8_charge 144 = .ok (.getfield 127, 3) := by decide +kernel
theorem dX8_charge_147 : decode cX8_charge 147 = .ok (.iconst 0, 1) := by decide +kernel
theorem dX8_charge_148 : decode cX8_charge 148 = .ok (.iastore, 1) := by decide +kernel
theorem dX8_charge_149 : decode cX8_charge 149 = .ok (.aload_n 0, 1) := by decide +kernel
theorem dX8_charge_150 : decode cX8_charge 150 = .ok (.getfield 19, 3) := by decide +kernel
theorem dX8_charge_153 : decode cX8_charge 153 = .ok (.aload_n 0, 1) := by decide +kernel
theorem dX8_charge_154 : decode cX8_charge 154 = .ok (.getfield 127, 3) := by decide +kernel
theorem dX8_charge_157 : decode cX8_charge 157 = .ok (.iload_n 1, 1) := by decide +kernel
theorem dX8_charge_158 : decode cX8_charge 158 = .ok (.iastore, 1) := by decide +kernel
theorem dX8_charge_159 : decode cX8_charge 159 = .ok (.aload_n 0, 1) := by decide +kernel
theorem dX8_charge_160 : decode cX8_charge 160 = .ok (.getfield 22, 3) := by decide +kernel
theorem dX8_charge_163 : decode cX8_charge 163 = .ok (.aload_n 0, 1) := by decide +kernel
theorem dX8_charge_164 : decode cX8_charge 164 = .ok (.getfield 127, 3) := by decide +kernel
theorem dX8_charge_167 : decode cX8_charge 167 = .ok (.iload_n 3, 1) := by decide +kernel
theorem dX8_charge_168 : decode cX8_charge 168 = .ok (.iastore, 1) := by decide +kernel
theorem dX8_charge_169 : decode cX8_charge 169 = .ok (.aload_n 0, 1) := by decide +kernel
theorem dX8_charge_170 : decode cX8_charge 170 = .ok (.getfield 25, 3) := by decide +kernel
theorem dX8_charge_173 : decode cX8_charge 173 = .ok (.aload_n 0, 1) := by decide +kernel
theorem dX8_charge_174 : decode cX8_charge 174 = .ok (.getfield 127, 3) := by decide +kernel
theorem dX8_charge_177 : decode cX8_charge 177 = .ok (.iload 4, 2) := by decide +kernel
theorem dX8_charge_179 : decode cX8_charge 179 = .ok (.iastore, 1) := by decide +kernel
theorem dX8_charge_180 : decode cX8_charge 180 = .ok (.aload_n 0, 1) := by decide +kernel
theorem dX8_charge_181 : decode cX8_charge 181 = .ok (.getfield 28, 3) := by decide +kernel
theorem dX8_charge_184 : decode cX8_charge 184 = .ok (.aload_n 0, 1) := by decide +kernel
theorem dX8_charge_185 : decode cX8_charge 185 = .ok (.getfield 127, 3) := by decide +kernel
theorem dX8_charge_188 : decode cX8_charge 188 = .ok (.iload_n 2, 1) := by decide +kernel
theorem dX8_charge_189 : decode cX8_charge 189 = .ok (.iastore, 1) := by decide +kernel
theorem dX8_charge_190 : decode cX8_charge 190 = .ok (.aload_n 0, 1) := by decide +kernel
theorem dX8_charge_191 : decode cX8_charge 191 = .ok (.getfield 31, 3) := by decide +kernel
theorem dX8_charge_194 : decode cX8_charge 194 = .ok (.aload_n 0, 1) := by decide +kernel
theorem dX8_charge_195 : decode cX8_charge 195 = .ok (.getfield 127, 3) := by decide +kernel
theorem dX8_charge_198 : decode cX8_charge 198 = .ok (.iconst (-1), 1) := by decide +kernel
theorem dX8_charge_199 : decode cX8_charge 199 = .ok (.iastore, 1) := by decide +kernel
theorem dX8_charge_200 : decode cX8_charge 200 = .ok (.aload_n 0, 1) := by decide +kernel
theorem dX8_charge_201 : decode cX8_charge 201 = .ok (.getfield 34, 3) := by decide +kernel
theorem dX8_charge_204 : decode cX8_charge 204 = .ok (.aload_n 0, 1) := by decide +kernel
theorem dX8_charge_205 : decode cX8_charge 205 = .ok (.getfield 127, 3) := by decide +kernel
theorem dX8_charge_208 : decode cX8_charge 208 = .ok (.iconst 0, 1) := by decide +kernel
theorem dX8_charge_209 : decode cX8_charge 209 = .ok (.iastore, 1) := by decide +kernel
theorem dX8_charge_210 : decode cX8_charge 210 = .ok (.aload_n 0, 1) := by decide +kernel
theorem dX8_charge_211 : decode cX8_charge 211 = .ok (.dup, 1) := by decide +kernel
theorem dX8_charge_212 : decode cX8_charge 212 = .ok (.getfield 127, 3) := by decide +kernel
theorem dX8_charge_215 : decode cX8_charge 215 = .ok (.iconst 1, 1) := by decide +kernel
theorem dX8_charge_216 : decode cX8_charge 216 = .ok (.iadd, 1) := by decide +kernel
theorem dX8_charge_217 : decode cX8_charge 217 = .ok (.putfield 127, 3) := by decide +kernel
theorem dX8_charge_220 : decode cX8_charge 220 = .ok (.aload_n 0, 1) := by decide +kernel
theorem dX8_charge_221 : decode cX8_charge 221 = .ok (.getfield 127, 3) := by decide +kernel
theorem dX8_charge_224 : decode cX8_charge 224 = .ok (.iconst 1, 1) := by decide +kernel
theorem dX8_charge_225 : decode cX8_charge 225 = .ok (.isub, 1) := by decide +kernel
theorem dX8_charge_226 : decode cX8_charge 226 = .ok (.ireturn, 1) := by decide +kernel
theorem dX8_chargeAt_0 : decode cX8_chargeAt 0 = .ok (.iload_n 1, 1) := by decide +kernel
theorem dX8_chargeAt_1 : decode cX8_chargeAt 1 = .ok (.ifCond .lt 13, 3) := by decide +kernel
theorem dX8_chargeAt_4 : decode cX8_chargeAt 4 = .ok (.iload_n 2, 1) := by decide +kernel
theorem dX8_chargeAt_5 : decode cX8_chargeAt 5 = .ok (.iconst 0, 1) := by decide +kernel
theorem dX8_chargeAt_6 : decode cX8_chargeAt 6 = .ok (.bipush 6, 2) := by decide +kernel
theorem dX8_chargeAt_8 : decode cX8_chargeAt 8 = .ok (.invokestatic 123, 3) := by decide +kernel
theorem dX8_chargeAt_11 : decode cX8_chargeAt 11 = .ok (.ifCond .ne 6, 3) := by decide +kernel
theorem dX8_chargeAt_14 : decode cX8_chargeAt 14 = .ok (.bipush (-2), 2) := by decide +kernel
theorem dX8_chargeAt_16 : decode cX8_chargeAt 16 = .ok (.ireturn, 1) := by decide +kernel
theorem dX8_chargeAt_17 : decode cX8_chargeAt 17 = .ok (.iload_n 1, 1) := by decide +kernel
theorem dX8_chargeAt_18 : decode cX8_chargeAt 18 = .ok (.aload_n 0, 1) := by decide +kernel
theorem dX8_chargeAt_19 : decode cX8_chargeAt 19 = .ok (.getfield 127, 3) := by decide +kernel
theorem dX8_chargeAt_22 : decode cX8_chargeAt 22 = .ok (.if_icmp .lt 5, 3) := by decide +kernel
theorem dX8_chargeAt_25 : decode cX8_chargeAt 25 = .ok (.iconst (-1), 1) := by decide +kernel
theorem dX8_chargeAt_26 : decode cX8_chargeAt 26 = .ok (.ireturn, 1) := by decide +kernel
theorem dX8_chargeAt_27 : decode cX8_chargeAt 27 = .ok (.iload_n 2, 1) := by decide +kernel
theorem dX8_chargeAt_28 : decode cX8_chargeAt 28 = .ok (.tableswitch 82 0 5 #[40, 47, 54, 61, 68, 75], 40) := by decide +kernel
theorem dX8_chargeAt_68 : decode cX8_chargeAt 68 = .ok (.aload_n 0, 1) := by decide +kernel
theorem dX8_chargeAt_69 : decode cX8_chargeAt 69 = .ok (.getfield 16, 3) := by decide +kernel
theorem dX8_chargeAt_72 : decode cX8_chargeAt 72 = .ok (.iload_n 1, 1) := by decide +kernel
theorem dX8_chargeAt_73 : decode cX8_chargeAt 73 = .ok (.iaload, 1) := by decide +kernel
theorem dX8_chargeAt_74 : decode cX8_chargeAt 74 = .ok (.ireturn, 1) := by decide +kernel
theorem dX8_chargeAt_75 : decode cX8_chargeAt 75 = .ok (.aload_n 0, 1) := by decide +kernel
theorem dX8_chargeAt_76 : decode cX8_chargeAt 76 = .ok (.getfield 19, 3) := by decide +kernel
theorem dX8_chargeAt_79 : decode cX8_chargeAt 79 = .ok (.iload_n 1, 1) := by decide +kernel
theorem dX8_chargeAt_80 : decode cX8_chargeAt 80 = .ok (.iaload, 1) := by decide +kernel
theorem dX8_chargeAt_81 : decode cX8_chargeAt 81 = .ok (.ireturn, 1) := by decide +kernel
theorem dX8_chargeAt_82 : decode cX8_chargeAt 82 = .ok (.aload_n 0, 1) := by decide +kernel
theorem dX8_chargeAt_83 : decode cX8_chargeAt 83 = .ok (.getfield 22, 3) := by decide +kernel
theorem dX8_chargeAt_86 : decode cX8_chargeAt 86 = .ok (.iload_n 1, 1) := by decide +kernel
theorem dX8_chargeAt_87 : decode cX8_chargeAt 87 = .ok (.iaload, 1) := by decide +kernel
theorem dX8_chargeAt_88 : decode cX8_chargeAt 88 = .ok (.ireturn, 1) := by decide +kernel
theorem dX8_chargeAt_89 : decode cX8_chargeAt 89 = .ok (.aload_n 0, 1) := by decide +kernel
theorem dX8_chargeAt_90 : decode cX8_chargeAt 90 = .ok (.getfield 25, 3) := by decide +kernel
theorem dX8_chargeAt_93 : decode cX8_chargeAt 93 = .ok (.iload_n 1, 1) := by decide +kernel
theorem dX8_chargeAt_94 : decode cX8_chargeAt 94 = .ok (.iaload, 1) := by decide +kernel
theorem dX8_chargeAt_95 : decode cX8_chargeAt 95 = .ok (.ireturn, 1) := by decide +kernel
theorem dX8_chargeAt_96 : decode cX8_chargeAt 96 = .ok (.aload_n 0, 1) := by decide +kernel
theorem dX8_chargeAt_97 : decode cX8_chargeAt 97 = .ok (.getfield 28, 3) := by decide +kernel
theorem dX8_chargeAt_100 : decode cX8_chargeAt 100 = .ok (.iload_n 1, 1) := by decide +kernel
theorem dX8_chargeAt_101 : decode cX8_chargeAt 101 = .ok (.iaload, 1) := by decide +kernel
theorem dX8_chargeAt_102 : decode cX8_chargeAt 102 = .ok (.ireturn, 1) := by decide +kernel
theorem dX8_chargeAt_103 : decode cX8_chargeAt 103 = .ok (.aload_n 0, 1) := by decide +kernel
theorem dX8_chargeAt_104 : decode cX8_chargeAt 104 = .ok (.getfield 31, 3) := by decide +kernel
theorem dX8_chargeAt_107 : decode cX8_chargeAt 107 = .ok (.iload_n 1, 1) := by decide +kernel
theorem dX8_chargeAt_108 : decode cX8_chargeAt 108 = .ok (.iaload, 1) := by decide +kernel
theorem dX8_chargeAt_109 : decode cX8_chargeAt 109 = .ok (.ireturn, 1) := by decide +kernel
theorem dX8_chargeAt_110 : decode cX8_chargeAt 110 = .ok (.aload_n 0, 1) := by decide +kernel
theorem dX8_chargeAt_111 : decode cX8_chargeAt 111 = .ok (.getfield 34, 3) := by decide +kernel
theorem dX8_chargeAt_114 : decode cX8_chargeAt 114 = .ok (.iload_n 1, 1) := by decide +kernel
theorem dX8_chargeAt_115 : decode cX8_chargeAt 115 = .ok (.iaload, 1) := by decide +kernel
theorem dX8_chargeAt_116 : decode cX8_chargeAt 116 = .ok (.ireturn, 1) := by decide +kernel
theorem dX8_when_0 : decode cX8_when 0 = .ok (.iload_n 1, 1) := by decide +kernel
theorem dX8_when_1 : decode cX8_when 1 = .ok (.iconst 0, 1) := by decide +kernel
theorem dX8_when_2 : decode cX8_when 2 = .ok (.aload_n 0, 1) := by decide +kernel
theorem dX8_when_3 : decode cX8_when 3 = .ok (.getfield 127, 3) := by decide +kernel
theorem dX8_when_6 : decode cX8_when 6 = .ok (.iconst 1, 1) := by decide +kernel
theorem dX8_when_7 : decode cX8_when 7 = .ok (.isub, 1) := by decide +kernel
theorem dX8_when_8 : decode cX8_when 8 = .ok (.invokestatic 123, 3) := by decide +kernel
theorem dX8_when_11 : decode cX8_when 11 = .ok (.ifCond .ne 6, 3) := by decide +kernel
theorem dX8_when_14 : decode cX8_when 14 = .ok (.bipush (-2), 2) := by decide +kernel
theorem dX8_when_16 : decode cX8_when 16 = .ok (.ireturn, 1) := by decide +kernel
theorem dX8_when_17 : decode cX8_when 17 = .ok (.aload_n 0, 1) := by decide +kernel
theorem dX8_when_18 : decode cX8_when 18 = .ok (.getfield 16, 3) := by decide +kernel
theorem dX8_when_21 : decode cX8_when 21 = .ok (.iload_n 1, 1) := by decide +kernel
theorem dX8_when_22 : decode cX8_when 22 = .ok (.iaload, 1) := by decide +kernel
theorem dX8_when_23 : decode cX8_when 23 = .ok (.ifCond .ne 10, 3) := by decide +kernel
theorem dX8_when_26 : decode cX8_when 26 = .ok (.aload_n 0, 1) := by decide +kernel
theorem dX8_when_27 : decode cX8_when 27 = .ok (.getfield 133, 3) := by decide +kernel
theorem dX8_when_30 : decode cX8_when 30 = .ok (.ifCond .ne 5, 3) := by decide +kernel
theorem dX8_when_33 : decode cX8_when 33 = .ok (.iconst (-1), 1) := by decide +kernel
theorem dX8_when_34 : decode cX8_when 34 = .ok (.ireturn, 1) := by decide +kernel
theorem dX8_when_35 : decode cX8_when 35 = .ok (.iconst 0, 1) := by decide +kernel
theorem dX8_when_36 : decode cX8_when 36 = .ok (.istore_n 2, 1) := by decide +kernel
theorem dX8_when_37 : decode cX8_when 37 = .ok (.aload_n 0, 1) := by decide +kernel
theorem dX8_when_38 : decode cX8_when 38 = .ok (.getfield 130, 3) := by decide +kernel
theorem dX8_when_41 : decode cX8_when 41 = .ok (.istore_n 3, 1) := by decide +kernel
theorem dX8_when_42 : decode cX8_when 42 = .ok (.iload_n 3, 1) := by decide +kernel
theorem dX8_when_43 : decode cX8_when 43 = .ok (.iload_n 1, 1) := by decide +kernel
theorem dX8_when_44 : decode cX8_when 44 = .ok (.if_icmp .gt 18, 3) := by decide +kernel
theorem dX8_when_47 : decode cX8_when 47 = .ok (.iload_n 2, 1) := by decide +kernel
theorem dX8_when_48 : decode cX8_when 48 = .ok (.aload_n 0, 1) := by decide +kernel
theorem dX8_when_49 : decode cX8_when 49 = .ok (.getfield 19, 3) := by decide +kernel
theorem dX8_when_52 : decode cX8_when 52 = .ok (.iload_n 3, 1) := by decide +kernel
theorem dX8_when_53 : decode cX8_when 53 = .ok (.iaload, 1) := by decide +kernel
theorem dX8_when_54 : decode cX8_when 54 = .ok (.iadd, 1) := by decide +kernel
theorem dX8_when_55 : decode cX8_when 55 = .ok (.istore_n 2, 1) := by decide +kernel
theorem dX8_when_56 : decode cX8_when 56 = .ok (.iinc 3 1, 3) := by decide +kernel
theorem dX8_when_59 : decode cX8_when 59 = .ok (.goto (-17), 3) := by decide +kernel
theorem dX8_when_62 : decode cX8_when 62 = .ok (.iload_n 2, 1) := by decide +kernel
theorem dX8_when_63 : decode cX8_when 63 = .ok (.aload_n 0, 1) := by decide +kernel
theorem dX8_when_64 : decode cX8_when 64 = .ok (.getfield 133, 3) := by decide +kernel
theorem dX8_when_67 : decode cX8_when 67 = .ok (.iadd, 1) := by decide +kernel
theorem dX8_when_68 : decode cX8_when 68 = .ok (.iconst 1, 1) := by decide +kernel
theorem dX8_when_69 : decode cX8_when 69 = .ok (.isub, 1) := by decide +kernel
theorem dX8_when_70 : decode cX8_when 70 = .ok (.aload_n 0, 1) := by decide +kernel
theorem dX8_when_71 : decode cX8_when 71 = .ok (.getfield 133, 3) := by decide +kernel
theorem dX8_when_74 : decode cX8_when 74 = .ok (.idiv, 1) := by decide +kernel
theorem dX8_when_75 : decode cX8_when 75 = .ok (.ireturn, 1) := by decide +kernel
theorem dX8_blast_0 : decode cX8_blast 0 = .ok (.iload_n 1, 1) := by decide +kernel
theorem dX8_blast_1 : decode cX8_blast 1 = .ok (.iconst 0, 1) := by decide +kernel
theorem dX8_blast_2 : decode cX8_blast 2 = .ok (.bipush 20, 2) := by decide +kernel
theorem dX8_blast_4 : decode cX8_blast 4 = .ok (.invokestatic 123, 3) := by decide +kernel
theorem dX8_blast_7 : decode cX8_blast 7 = .ok (.ifCond .ne 6, 3) := by decide +kernel
theorem dX8_blast_10 : decode cX8_blast 10 = .ok (.bipush (-2), 2) := by decide +kernel
theorem dX8_blast_12 : decode cX8_blast 12 = .ok (.ireturn, 1) := by decide +kernel
theorem dX8_blast_13 : decode cX8_blast 13 = .ok (.aload_n 0, 1) := by decide +kernel
theorem dX8_blast_14 : decode cX8_blast 14 = .ok (.getfield 133, 3) := by decide +kernel
theorem dX8_blast_17 : decode cX8_blast 17 = .ok (.istore_n 2, 1) := by decide +kernel
theorem dX8_blast_18 : decode cX8_blast 18 = .ok (.aload_n 0, 1) := by decide +kernel
theorem dX8_blast_19 : decode cX8_blast 19 = .ok (.iload_n 1, 1) := by decide +kernel
theorem dX8_blast_20 : decode cX8_blast 20 = .ok (.putfield 133, 3) := by decide +kernel
theorem dX8_blast_23 : decode cX8_blast 23 = .ok (.iload_n 2, 1) := by decide +kernel
theorem dX8_blast_24 : decode cX8_blast 24 = .ok (.ireturn, 1) := by decide +kernel
theorem dX8_hearth_0 : decode cX8_hearth 0 = .ok (.iload_n 1, 1) := by decide +kernel
theorem dX8_hearth_1 : decode cX8_hearth 1 = .ok (.iconst 1, 1) := by decide +kernel
theorem dX8_hearth_2 : decode cX8_hearth 2 = .ok (.sipush 500, 3) := by decide +kernel
theorem dX8_hearth_5 : decode cX8_hearth 5 = .ok (.invokestatic 123, 3) := by decide +kernel
theorem dX8_hearth_8 : decode cX8_hearth 8 = .ok (.ifCond .eq 13, 3) := by decide +kernel
theorem dX8_hearth_11 : decode cX8_hearth 11 = .ok (.iload_n 2, 1) := by decide +kernel
theorem dX8_hearth_12 : decode cX8_hearth 12 = .ok (.iconst 1, 1) := by decide +kernel
theorem dX8_hearth_13 : decode cX8_hearth 13 = .ok (.ldc 136, 2) := by decide +kernel
theorem dX8_hearth_15 : decode cX8_hearth 15 = .ok (.invokestatic 123, 3) := by decide +kernel
theorem dX8_hearth_18 : decode cX8_hearth 18 = .ok (.ifCond .ne 6, 3) := by decide +kernel
theorem dX8_hearth_21 : decode cX8_hearth 21 = .ok (.bipush (-2), 2) := by decide +kernel
theorem dX8_hearth_23 : decode cX8_hearth 23 = .ok (.ireturn, 1) := by decide +kernel
theorem dX8_hearth_24 : decode cX8_hearth 24 = .ok (.aload_n 0, 1) := by decide +kernel
theorem dX8_hearth_25 : decode cX8_hearth 25 = .ok (.iload_n 1, 1) := by decide +kernel
theorem dX8_hearth_26 : decode cX8_hearth 26 = .ok (.putfield 37, 3) := by decide +kernel
theorem dX8_hearth_29 : decode cX8_hearth 29 = .ok (.aload_n 0, 1) := by decide +kernel
theorem dX8_hearth_30 : decode cX8_hearth 30 = .ok (.iload_n 2, 1) := by decide +kernel
theorem dX8_hearth_31 : decode cX8_hearth 31 = .ok (.putfield 41, 3) := by decide +kernel
theorem dX8_hearth_34 : decode cX8_hearth 34 = .ok (.iconst 1, 1) := by decide +kernel
theorem dX8_hearth_35 : decode cX8_hearth 35 = .ok (.ireturn, 1) := by decide +kernel
theorem dX8_act_0 : decode cX8_act 0 = .ok (.iload_n 1, 1) := by decide +kernel
theorem dX8_act_1 : decode cX8_act 1 = .ok (.ifCond .ne 30, 3) := by decide +kernel
theorem dX8_act_4 : decode cX8_act 4 = .ok (.aload_n 0, 1) := by decide +kernel
theorem dX8_act_5 : decode cX8_act 5 = .ok (.aload_n 0, 1) := by decide +kernel
theorem dX8_act_6 : decode cX8_act 6 = .ok (.getfield 133, 3) := by decide +kernel
theorem dX8_act_9 : decode cX8_act 9 = .ok (.bipush 20, 2) := by decide +kernel
theorem dX8_act_11 : decode cX8_act 11 = .ok (.if_icmp .ge 12, 3) := by decide +kernel
theorem dX8_act_14 : decode cX8_act 14 = .ok (.aload_n 0, 1) := by decide +kernel
theorem dX8_act_15 : decode cX8_act 15 = .ok (.getfield 133, 3) := by decide +kernel
theorem dX8_act_18 : decode cX8_act 18 = .ok (.iconst 1, 1) := by decide +kernel
theorem dX8_act_19 : decode cX8_act 19 = .ok (.iadd, 1) := by decide +kernel
theorem dX8_act_20 : decode cX8_act 20 = .ok (.goto 5, 3) := by decide +kernel
theorem dX8_act_23 : decode cX8_act 23 = .ok (.bipush 20, 2) := by decide +kernel
theorem dX8_act_25 : decode cX8_act 25 = .ok (.putfield 133, 3) := by decide +kernel
theorem dX8_act_28 : decode cX8_act 28 = .ok (.goto 37, 3) := by decide +kernel
theorem dX8_act_31 : decode cX8_act 31 = .ok (.iload_n 1, 1) := by decide +kernel
theorem dX8_act_32 : decode cX8_act 32 = .ok (.iconst 1, 1) := by decide +kernel
theorem dX8_act_33 : decode cX8_act 33 = .ok (.if_icmp .ne 27, 3) := by decide +kernel
theorem dX8_act_36 : decode cX8_act 36 = .ok (.aload_n 0, 1) := by decide +kernel
theorem dX8_act_37 : decode cX8_act 37 = .ok (.aload_n 0, 1) := by decide +kernel
theorem dX8_act_38 : decode cX8_act 38 = .ok (.getfield 133, 3) := by decide +kernel
theorem dX8_act_41 : decode cX8_act 41 = .ok (.ifCond .le 12, 3) := by decide +kernel
theorem dX8_act_44 : decode cX8_act 44 = .ok (.aload_n 0, 1) := by decide +kernel
theorem dX8_act_45 : decode cX8_act 45 = .ok (.getfield 133, 3) := by decide +kernel
theorem dX8_act_48 : decode cX8_act 48 = .ok (.iconst 1, 1) := by decide +kernel
theorem dX8_act_49 : decode cX8_act 49 = .ok (.isub, 1) := by decide +kernel
theorem dX8_act_50 : decode cX8_act 50 = .ok (.goto 4, 3) := by decide +kernel
theorem dX8_act_53 : decode cX8_act 53 = .ok (.iconst 0, 1) := by decide +kernel
theorem dX8_act_54 : decode cX8_act 54 = .ok (.putfield 133, 3) := by decide +kernel
theorem dX8_act_57 : decode cX8_act 57 = .ok (.goto 8, 3) := by decide +kernel
theorem dX8_act_60 : decode cX8_act 60 = .ok (.aload_n 0, 1) := by decide +kernel
theorem dX8_act_61 : decode cX8_act 61 = .ok (.invokevirtual 137, 3) := by decide +kernel
theorem dX8_act_64 : decode cX8_act 64 = .ok (.istore_n 2, 1) := by decide +kernel
theorem dX8_act_65 : decode cX8_act 65 = .ok (.return_, 1) := by decide +kernel
theorem dX8_comesDown_0 : decode cX8_comesDown 0 = .ok (.aload_n 0, 1) := by decide +kernel
theorem dX8_comesDown_1 : decode cX8_comesDown 1 = .ok (.getfield 130, 3) := by decide +kernel
theorem dX8_comesDown_4 : decode cX8_comesDown 4 = .ok (.istore_n 1, 1) := by decide +kernel
theorem dX8_comesDown_5 : decode cX8_comesDown 5 = .ok (.aload_n 0, 1) := by decide +kernel
theorem dX8_comesDown_6 : decode cX8_comesDown 6 = .ok (.dup, 1) := by decide +kernel
theorem dX8_comesDown_7 : decode cX8_comesDown 7 = .ok (.getfield 130, 3) := by decide +kernel
theorem dX8_comesDown_10 : decode cX8_comesDown 10 = .ok (.iconst 1, 1) := by decide +kernel
theorem dX8_comesDown_11 : decode cX8_comesDown 11 = .ok (.iadd, 1) := by decide +kernel
theorem dX8_comesDown_12 : decode cX8_comesDown 12 = .ok (.putfield 130, 3) := by decide +kernel
theorem dX8_comesDown_15 : decode cX8_comesDown 15 = .ok (.aload_n 0, 1) := by decide +kernel
theorem dX8_comesDown_16 : decode cX8_comesDown 16 = .ok (.getfield 141, 3) := by decide +kernel
theorem dX8_comesDown_19 : decode cX8_comesDown 19 = .ok (.bipush 10, 2) := by decide +kernel
theorem dX8_comesDown_21 : decode cX8_comesDown 21 = .ok (.aload_n 0, 1) := by decide +kernel
theorem dX8_comesDown_22 : decode cX8_comesDown 22 = .ok (.getfield 22, 3) := by decide +kernel
theorem dX8_comesDown_25 : decode cX8_comesDown 25 = .ok (.iload_n 1, 1) := by decide +kernel
theorem dX8_comesDown_26 : decode cX8_comesDown 26 = .ok (.iaload, 1) := by decide +kernel
theorem dX8_comesDown_27 : decode cX8_comesDown 27 = .ok (.imul, 1) := by decide +kernel
theorem dX8_comesDown_28 : decode cX8_comesDown 28 = .ok (.if_icmp .lt 239, 3) := by decide +kernel
theorem dX8_comesDown_31 : decode cX8_comesDown 31 = .ok (.aload_n 0, 1) := by decide +kernel
theorem dX8_comesDown_32 : decode cX8_comesDown 32 = .ok (.getfield 16, 3) := by decide +kernel
theorem dX8_comesDown_35 : decode cX8_comesDown 35 = .ok (.iload_n 1, 1) := by decide +kernel
theorem dX8_comesDown_36 : decode cX8_comesDown 36 = .ok (.iconst 1, 1) := by decide +kernel
theorem dX8_comesDown_37 : decode cX8_comesDown 37 = .ok (.iastore, 1) := by decide +kernel
theorem dX8_comesDown_38 : decode cX8_comesDown 38 = .ok (.aload_n 0, 1) := by decide +kernel
theorem dX8_comesDown_39 : decode cX8_comesDown 39 = .ok (.getfield 34, 3) := by decide +kernel
theorem dX8_comesDown_42 : decode cX8_comesDown 42 = .ok (.iload_n 1, 1) := by decide +kernel
theorem dX8_comesDown_43 : decode cX8_comesDown 43 = .ok (.aload_n 0, 1) := by decide +kernel
theorem dX8_comesDown_44 : decode cX8_comesDown 44 = .ok (.getfield 22, 3) := by decide +kernel
theorem dX8_comesDown_47 : decode cX8_comesDown 47 = .ok (.iload_n 1, 1) := by decide +kernel
theorem dX8_comesDown_48 : decode cX8_comesDown 48 = .ok (.iaload, 1) := by decide +kernel
theorem dX8_comesDown_49 : decode cX8_comesDown 49 = .ok (.aload_n 0, 1) := by decide +kernel
theorem dX8_comesDown_50 : decode cX8_comesDown 50 = .ok (.getfield 13, 3) := by decide +kernel
theorem dX8_comesDown_53 : decode cX8_comesDown 53 = .ok (.aload_n 0, 1) := by decide +kernel
theorem dX8_comesDown_54 : decode cX8_comesDown 54 = .ok (.getfield 28, 3) := by decide +kernel
theorem dX8_comesDown_57 : decode cX8_comesDown 57 = .ok (.iload_n 1, 1) := by decide +kernel
theorem dX8_comesDown_58 : decode cX8_comesDown 58 = .ok (.iaload, 1) := by decide +kernel
theorem dX8_comesDown_59 : decode cX8_comesDown 59 = .ok (.iaload, 1) := by decide +kernel
theorem dX8_comesDown_60 : decode cX8_comesDown 60 = .ok (.imul, 1) := by decide +kernel
theorem dX8_comesDown_61 : decode cX8_comesDown 61 = .ok (.bipush 100, 2) := by decide +kernel
theorem dX8_comesDown_63 : decode cX8_comesDown 63 = .ok (.idiv, 1) := by decide +kernel
theorem dX8_comesDown_64 : decode cX8_comesDown 64 = .ok (.iastore, 1) := by decide +kernel
theorem dX8_comesDown_65 : decode cX8_comesDown 65 = .ok (.aload_n 0, 1) := by decide +kernel
theorem dX8_comesDown_66 : decode cX8_comesDown 66 = .ok (.getfield 31, 3) := by decide +kernel
theorem dX8_comesDown_69 : decode cX8_comesDown 69 = .ok (.iload_n 1, 1) := by decide +kernel
theorem dX8_comesDown_70 : decode cX8_comesDown 70 = .ok (.iconst 4, 1) := by decide +kernel
theorem dX8_comesDown_71 : decode cX8_comesDown 71 = .ok (.aload_n 0, 1) := by decide +kernel
theorem dX8_comesDown_72 : decode cX8_comesDown 72 = .ok (.getfield 25, 3) := by decide +kernel
theorem dX8_comesDown_75 : decode cX8_comesDown 75 = .ok (.iload_n 1, 1) := by decide +kernel
theorem dX8_comesDown_76 : decode cX8_comesDown 76 = .ok (.iaload, 1) := by decide +kernel
theorem dX8_comesDown_77 : decode cX8_comesDown 77 = .ok (.imul, 1) := by decide +kernel
theorem dX8_comesDown_78 : decode cX8_comesDown 78 = .ok (.aload_n 0, 1) := by decide +kernel
theorem dX8_comesDown_79 : decode cX8_comesDown 79 = .ok (.getfield 22, 3) := by decide +kernel
theorem dX8_comesDown_82 : decode cX8_comesDown 82 = .ok (.iload_n 1, 1) := by decide +kernel
theorem dX8_comesDown_83 : decode cX8_comesDown 83 = .ok (.iaload, 1) := by decide +kernel
theorem dX8_comesDown_84 : decode cX8_comesDown 84 = .ok (.if_icmp .lt 7, 3) := by decide +kernel
theorem dX8_comesDown_87 : decode cX8_comesDown 87 = .ok (.iconst 1, 1) := by decide +kernel
theorem dX8_comesDown_88 : decode cX8_comesDown 88 = .ok (.goto 4, 3) := by decide +kernel
theorem dX8_comesDown_91 : decode cX8_comesDown 91 = .ok (.iconst 0, 1) := by decide +kernel
theorem dX8_comesDown_92 : decode cX8_comesDown 92 = .ok (.aload_n 0, 1) := by decide +kernel
theorem dX8_comesDown_93 : decode cX8_comesDown 93 = .ok (.getfield 141, 3) := by decide +kernel
theorem dX8_comesDown_96 : decode cX8_comesDown 96 = .ok (.sipush 400, 3) := by decide +kernel
theorem dX8_comesDown_99 : decode cX8_comesDown 99 = .ok (.if_icmp .lt 7, 3) := by decide +kernel
theorem dX8_comesDown_102 : decode cX8_comesDown 102 = .ok (.iconst 1, 1) := by decide +kernel
theorem dX8_comesDown_103 : decode cX8_comesDown 103 = .ok (.goto 4, 3) := by decide +kernel
theorem dX8_comesDown_106 : decode cX8_comesDown 106 = .ok (.iconst 0, 1) := by decide +kernel
theorem dX8_comesDown_107 : decode cX8_comesDown 107 = .ok (.iadd, 1) := by decide +kernel
theorem dX8_comesDown_108 : decode cX8_comesDown 108 = .ok (.aload_n 0, 1) := by decide +kernel
theorem dX8_comesDown_109 : decode cX8_comesDown 109 = .ok (.getfield 141, 3) := by decide +kernel
theorem dX8_comesDown_112 : decode cX8_comesDown 112 = .ok (.sipush 700, 3) := by decide +kernel
theorem dX8_comesDown_115 : decode cX8_comesDown 115 = .ok (.if_icmp .lt 7, 3) := by decide +kernel
theorem dX8_comesDown_118 : decode cX8_comesDown 118 = .ok (.iconst 1, 1) := by decide +kernel
theorem dX8_comesDown_119 : decode cX8_comesDown 119 = .ok (.goto 4, 3) := by decide +kernel
theorem dX8_comesDown_122 : decode cX8_comesDown 122 = .ok (.iconst 0, 1) := by decide +kernel
theorem dX8_comesDown_123 : decode cX8_comesDown 123 = .ok (.iadd, 1) := by decide +kernel
theorem dX8_comesDown_124 : decode cX8_comesDown 124 = .ok (.iastore, 1) := by decide +kernel
theorem dX8_comesDown_125 : decode cX8_comesDown 125 = .ok (.aload_n 0, 1) := by decide +kernel
theorem dX8_comesDown_126 : decode cX8_comesDown 126 = .ok (.dup, 1) := by decide +kernel
theorem dX8_comesDown_127 : decode cX8_comesDown 127 = .ok (.getfield 144, 3) := by decide +kernel
theorem dX8_comesDown_130 : decode cX8_comesDown 130 = .ok (.aload_n 0, 1) := by decide +kernel
theorem dX8_comesDown_131 : decode cX8_comesDown 131 = .ok (.getfield 34, 3) := by decide +kernel
theorem dX8_comesDown_134 : decode cX8_comesDown 134 = .ok (.iload_n 1, 1) := by decide +kernel
theorem dX8_comesDown_135 : decode cX8_comesDown 135 = .ok (.iaload, 1) := by decide +kernel
theorem dX8_comesDown_136 : decode cX8_comesDown 136 = .ok (.iadd, 1) := by decide +kernel
theorem dX8_comesDown_137 : decode cX8_comesDown 137 = .ok (.putfield 144, 3) := by decide +kernel
theorem dX8_comesDown_140 : decode cX8_comesDown 140 = .ok (.aload_n 0, 1) := by decide +kernel
theorem dX8_comesDown_141 : decode cX8_comesDown 141 = .ok (.dup, 1) := by decide +kernel
theorem dX8_comesDown_142 : decode cX8_comesDown 142 = .ok (.getfield 147, 3) := by decide +kernel
theorem dX8_comesDown_145 : decode cX8_comesDown 145 = .ok (.aload_n 0, 1) := by decide +kernel
theorem dX8_comesDown_146 : decode cX8_comesDown 146 = .ok (.getfield 34, 3) := by decide +kernel
theorem dX8_comesDown_149 : decode cX8_comesDown 149 = .ok (.iload_n 1, 1) := by decide +kernel
theorem dX8_comesDown_150 : decode cX8_comesDown 150 = .ok (.iaload, 1) := by decide +kernel
theorem dX8_comesDown_151 : decode cX8_comesDown 151 = .ok (.iadd, 1) := by decide +kernel
theorem dX8_comesDown_152 : decode cX8_comesDown 152 = .ok (.putfield 147, 3) := by decide +kernel
theorem dX8_comesDown_155 : decode cX8_comesDown 155 = .ok (.aload_n 0, 1) := by decide +kernel
theorem dX8_comesDown_156 : decode cX8_comesDown 156 = .ok (.dup, 1) := by decide +kernel
theorem dX8_comesDown_157 : decode cX8_comesDown 157 = .ok (.getfield 150, 3) := by decide +kernel
theorem dX8_comesDown_160 : decode cX8_comesDown 160 = .ok (.aload_n 0, 1) := by decide +kernel
theorem dX8_comesDown_161 : decode cX8_comesDown 161 = .ok (.getfield 22, 3) := by decide +kernel
theorem dX8_comesDown_164 : decode cX8_comesDown 164 = .ok (.iload_n 1, 1) := by decide +kernel
theorem dX8_comesDown_165 : decode cX8_comesDown 165 = .ok (.iaload, 1) := by decide +kernel
theorem dX8_comesDown_166 : decode cX8_comesDown 166 = .ok (.aload_n 0, 1) := by decide +kernel
theorem dX8_comesDown_167 : decode cX8_comesDown 167 = .ok (.getfield 34, 3) := by decide +kernel
theorem dX8_comesDown_170 : decode cX8_comesDown 170 = .ok (.iload_n 1, 1) := by decide +kernel
theorem dX8_comesDown_171 : decode cX8_comesDown 171 = .ok (.iaload, 1) := by decide +kernel
theorem dX8_comesDown_172 : decode cX8_comesDown 172 = .ok (.isub, 1) := by decide +kernel
theorem dX8_comesDown_173 : decode cX8_comesDown 173 = .ok (.aload_n 0, 1) := by decide +kernel
theorem dX8_comesDown_174 : decode cX8_comesDown 174 = .ok (.getfield 25, 3) := by decide +kernel
theorem dX8_comesDown_177 : decode cX8_comesDown 177 = .ok (.iload_n 1, 1) := by decide +kernel
theorem dX8_comesDown_178 : decode cX8_comesDown 178 = .ok (.iaload, 1) := by decide +kernel
theorem dX8_comesDown_179 : decode cX8_comesDown 179 = .ok (.iadd, 1) := by decide +kernel
theorem dX8_comesDown_180 : decode cX8_comesDown 180 = .ok (.iadd, 1) := by decide +kernel
theorem dX8_comesDown_181 : decode cX8_comesDown 181 = .ok (.putfield 150, 3) := by decide +kernel
theorem dX8_comesDown_184 : decode cX8_comesDown 184 = .ok (.aload_n 0, 1) := by decide +kernel
theorem dX8_comesDown_185 : decode cX8_comesDown 185 = .ok (.dup, 1) := by decide +kernel
theorem dX8_comesDown_186 : decode cX8_comesDown 186 = .ok (.getfield 141, 3) := by decide +kernel
theorem dX8_comesDown_189 : decode cX8_comesDown 189 = .ok (.iconst 5, 1) := by decide +kernel
theorem dX8_comesDown_190 : decode cX8_comesDown 190 = .ok (.aload_n 0, 1) := by decide +kernel
theorem dX8_comesDown_191 : decode cX8_comesDown 191 = .ok (.getfield 22, 3) := by decide +kernel
theorem dX8_comesDown_194 : decode cX8_comesDown 194 = .ok (.iload_n 1, 1) := by decide +kernel
theorem dX8_comesDown_195 : decode cX8_comesDown 195 = .ok (.iaload, 1) := by decide +kernel
theorem dX8_comesDown_196 : decode cX8_comesDown 196 = .ok (.imul, 1) := by decide +kernel
theorem dX8_comesDown_197 : decode cX8_comesDown 197 = .ok (.isub, 1) := by decide +kernel
theorem dX8_comesDown_198 : decode cX8_comesDown 198 = .ok (.putfield 141, 3) := by decide +kernel
theorem dX8_comesDown_201 : decode cX8_comesDown 201 = .ok (.aload_n 0, 1) := by decide +kernel
theorem dX8_comesDown_202 : decode cX8_comesDown 202 = .ok (.aload_n 0, 1) := by decide +kernel
theorem dX8_comesDown_203 : decode cX8_comesDown 203 = .ok (.getfield 44, 3) := by decide +kernel
theorem dX8_comesDown_206 : decode cX8_comesDown 206 = .ok (.iconst (-1), 1) := by decide +kernel
theorem dX8_comesDown_207 : decode cX8_comesDown 207 = .ok (.if_icmp .eq 16, 3) := by decide +kernel
theorem dX8_comesDown_210 : decode cX8_comesDown 210 = .ok (.aload_n 0, 1) := by decide +kernel
theorem dX8_comesDown_211 : decode cX8_comesDown 211 = .ok (.getfield 31, 3) := by decide +kernel
theorem dX8_comesDown_214 : decode cX8_comesDown 214 = .ok (.iload_n 1, 1) := by decide +kernel
theorem dX8_comesDown_215 : decode cX8_comesDown 215 = .ok (.iaload, 1) := by decide +kernel
theorem dX8_comesDown_216 : decode cX8_comesDown 216 = .ok (.aload_n 0, 1) := by decide +kernel
theorem dX8_comesDown_217 : decode cX8_comesDown 217 = .ok (.getfield 44, 3) := by decide +kernel
theorem dX8_comesDown_220 : decode cX8_comesDown 220 = .ok (.if_icmp .ge 12, 3) := by decide +kernel
theorem dX8_comesDown_223 : decode cX8_comesDown 223 = .ok (.aload_n 0, 1) := by decide +kernel
theorem dX8_comesDown_224 : decode cX8_comesDown 224 = .ok (.getfield 31, 3) := by decide +kernel
theorem dX8_comesDown_227 : decode cX8_comesDown 227 = .ok (.iload_n 1, 1) := by decide +kernel
theorem dX8_comesDown_228 : decode cX8_comesDown 228 = .ok (.iaload, 1) := by decide +kernel
theorem dX8_comesDown_229 : decode cX8_comesDown 229 = .ok (.goto 7, 3) := by decide +kernel
theorem dX8_comesDown_232 : decode cX8_comesDown 232 = .ok (.aload_n 0, 1) := by decide +kernel
theorem dX8_comesDown_233 : decode cX8_comesDown 233 = .ok (.getfield 44, 3) := by decide +kernel
theorem dX8_comesDown_236 : decode cX8_comesDown 236 = .ok (.putfield 44, 3) := by decide +kernel
theorem dX8_comesDown_239 : decode cX8_comesDown 239 = .ok (.aload_n 0, 1) := by decide +kernel
theorem dX8_comesDown_240 : decode cX8_comesDown 240 = .ok (.aload_n 0, 1) := by decide +kernel
theorem dX8_comesDown_241 : decode cX8_comesDown 241 = .ok (.getfield 47, 3) := by decide +kernel
theorem dX8_comesDown_244 : decode cX8_comesDown 244 = .ok (.iconst (-1), 1) := by decide +kernel
theorem dX8_comesDown_245 : decode cX8_comesDown 245 = .ok (.if_icmp .ne 7, 3) := by decide +kernel
theorem dX8_comesDown_248 : decode cX8_comesDown 248 = .ok (.iload_n 1, 1) := by decide +kernel
theorem dX8_comesDown_249 : decode cX8_comesDown 249 = .ok (.goto 7, 3) := by decide +kernel
theorem dX8_comesDown_252 : decode cX8_comesDown 252 = .ok (.aload_n 0, 1) := by decide +kernel
theorem dX8_comesDown_253 : decode cX8_comesDown 253 = .ok (.getfield 47, 3) := by decide +kernel
theorem dX8_comesDown_256 : decode cX8_comesDown 256 = .ok (.putfield 47, 3) := by decide +kernel
theorem dX8_comesDown_259 : decode cX8_comesDown 259 = .ok (.aload_n 0, 1) := by decide +kernel
theorem dX8_comesDown_260 : decode cX8_comesDown 260 = .ok (.iload_n 1, 1) := by decide +kernel
theorem dX8_comesDown_261 : decode cX8_comesDown 261 = .ok (.putfield 50, 3) := by decide +kernel
theorem dX8_comesDown_264 : decode cX8_comesDown 264 = .ok (.goto 42, 3) := by decide +kernel
theorem dX8_comesDown_267 : decode cX8_comesDown 267 = .ok (.aload_n 0, 1) := by decide +kernel
theorem dX8_comesDown_268 : decode cX8_comesDown 268 = .ok (.getfield 16, 3) := by decide +kernel
theorem dX8_comesDown_271 : decode cX8_comesDown 271 = .ok (.iload_n 1, 1) := by decide +kernel
theorem dX8_comesDown_272 : decode cX8_comesDown 272 = .ok (.iconst 2, 1) := by decide +kernel
theorem dX8_comesDown_273 : decode cX8_comesDown 273 = .ok (.iastore, 1) := by decide +kernel
theorem dX8_comesDown_274 : decode cX8_comesDown 274 = .ok (.aload_n 0, 1) := by decide +kernel
theorem dX8_comesDown_275 : decode cX8_comesDown 275 = .ok (.dup, 1) := by decide +kernel
theorem dX8_comesDown_276 : decode cX8_comesDown 276 = .ok (.getfield 150, 3) := by decide +kernel
theorem dX8_comesDown_279 : decode cX8_comesDown 279 = .ok (.aload_n 0, 1) := by decide +kernel
theorem dX8_comesDown_280 : decode cX8_comesDown 280 = .ok (.getfield 22, 3) := by decide +kernel
theorem dX8_comesDown_283 : decode cX8_comesDown 283 = .ok (.iload_n 1, 1) := by decide +kernel
theorem dX8_comesDown_284 : decode cX8_comesDown 284 = .ok (.iaload, 1) := by decide +kernel
theorem dX8_comesDown_285 : decode cX8_comesDown 285 = .ok (.aload_n 0, 1) := by decide +kernel
theorem dX8_comesDown_286 : decode cX8_comesDown 286 = .ok (.getfield 25, 3) := by decide +kernel
theorem dX8_comesDown_289 : decode cX8_comesDown 289 = .ok (.iload_n 1, 1) := by decide +kernel
theorem dX8_comesDown_290 : decode cX8_comesDown 290 = .ok (.iaload, 1) := by decide +kernel
theorem dX8_comesDown_291 : decode cX8_comesDown 291 = .ok (.iadd, 1) := by decide +kernel
theorem dX8_comesDown_292 : decode cX8_comesDown 292 = .ok (.iadd, 1) := by decide +kernel
theorem dX8_comesDown_293 : decode cX8_comesDown 293 = .ok (.putfield 150, 3) := by decide +kernel
theorem dX8_comesDown_296 : decode cX8_comesDown 296 = .ok (.aload_n 0, 1) := by decide +kernel
theorem dX8_comesDown_297 : decode cX8_comesDown 297 = .ok (.dup, 1) := by decide +kernel
theorem dX8_comesDown_298 : decode cX8_comesDown 298 = .ok (.getfield 153, 3) := by decide +kernel
theorem dX8_comesDown_301 : decode cX8_comesDown 301 = .ok (.iconst 1, 1) := by decide +kernel
theorem dX8_comesDown_302 : decode cX8_comesDown 302 = .ok (.iadd, 1) := by decide +kernel
theorem dX8_comesDown_303 : decode cX8_comesDown 303 = .ok (.putfield 153, 3) := by decide +kernel
theorem dX8_comesDown_306 : decode cX8_comesDown 306 = .ok (.return_, 1) := by decide +kernel
theorem dX8_oneTick_0 : decode cX8_oneTick 0 = .ok (.iconst 0, 1) := by decide +kernel
theorem dX8_oneTick_1 : decode cX8_oneTick 1 = .ok (.istore_n 1, 1) := by decide +kernel
theorem dX8_oneTick_2 : decode cX8_oneTick 2 = .ok (.iload_n 1, 1) := by decide +kernel
theorem dX8_oneTick_3 : decode cX8_oneTick 3 = .ok (.aload_n 0, 1) := by decide +kernel
theorem dX8_oneTick_4 : decode cX8_oneTick 4 = .ok (.getfield 156, 3) := by decide +kernel
theorem dX8_oneTick_7 : decode cX8_oneTick 7 = .ok (.if_icmp .ge 68, 3) := by decide +kernel
theorem dX8_oneTick_10 : decode cX8_oneTick 10 = .ok (.aload_n 0, 1) := by decide +kernel
theorem dX8_oneTick_11 : decode cX8_oneTick 11 = .ok (.getfield 71, 3) := by decide +kernel
theorem dX8_oneTick_14 : decode cX8_oneTick 14 = .ok (.aload_n 0, 1) := by decide +kernel
theorem dX8_oneTick_15 : decode cX8_oneTick 15 = .ok (.getfield 77, 3) := by decide +kernel
theorem dX8_oneTick_18 : decode cX8_oneTick 18 = .ok (.iload_n 1, 1) := by decide +kernel
theorem dX8_oneTick_19 : decode cX8_oneTick 19 = .ok (.iaload, 1) := by decide +kernel
theorem dX8_oneTick_20 : decode cX8_oneTick 20 = .ok (.iaload, 1) := by decide +kernel
theorem dX8_oneTick_21 : decode cX8_oneTick 21 = .ok (.istore_n 2, 1) := by decide +kernel
theorem dX8_oneTick_22 : decode cX8_oneTick 22 = .ok (.iload_n 2, 1) := by decide +kernel
theorem dX8_oneTick_23 : decode cX8_oneTick 23 = .ok (.iconst (-1), 1) := by decide +kernel
theorem dX8_oneTick_24 : decode cX8_oneTick 24 = .ok (.if_icmp .eq 45, 3) := by decide +kernel
theorem dX8_oneTick_27 : decode cX8_oneTick 27 = .ok (.aload_n 0, 1) := by decide +kernel
theorem dX8_oneTick_28 : decode cX8_oneTick 28 = .ok (.getfield 80, 3) := by decide +kernel
theorem dX8_oneTick_31 : decode cX8_oneTick 31 = .ok (.iload_n 1, 1) := by decide +kernel
theorem dX8_oneTick_32 : decode cX8_oneTick 32 = .ok (.baload, 1) := by decide +kernel
theorem dX8_oneTick_33 : decode cX8_oneTick 33 = .ok (.ifCond .eq 16, 3) := by decide +kernel
theorem dX8_oneTick_36 : decode cX8_oneTick 36 = .ok (.iload_n 2, 1) := by decide +kernel
theorem dX8_oneTick_37 : decode cX8_oneTick 37 = .ok (.aload_n 0, 1) := by decide +kernel
theorem dX8_oneTick_38 : decode cX8_oneTick 38 = .ok (.getfield 84, 3) := by decide +kernel
theorem dX8_oneTick_41 : decode cX8_oneTick 41 = .ok (.iload_n 1, 1) := by decide +kernel
theorem dX8_oneTick_42 : decode cX8_oneTick 42 = .ok (.iaload, 1) := by decide +kernel
theorem dX8_oneTick_43 : decode cX8_oneTick 43 = .ok (.if_icmp .le 26, 3) := by decide +kernel
theorem dX8_oneTick_46 : decode cX8_oneTick 46 = .ok (.goto 13, 3) := by decide +kernel
theorem dX8_oneTick_49 : decode cX8_oneTick 49 = .ok (.iload_n 2, 1) := by decide +kernel
theorem dX8_oneTick_50 : decode cX8_oneTick 50 = .ok (.aload_n 0, 1) := by decide +kernel
theorem dX8_oneTick_51 : decode cX8_oneTick 51 = .ok (.getfield 84, 3) := by decide +kernel
theorem dX8_oneTick_54 : decode cX8_oneTick 54 = .ok (.iload_n 1, 1) := by decide +kernel
theorem dX8_oneTick_55 : decode cX8_oneTick 55 = .ok (.iaload, 1) := by decide +kernel
theorem dX8_oneTick_56 : decode cX8_oneTick 56 = .ok (.if_icmp .ge 13, 3) := by decide +kernel
theorem dX8_oneTick_59 : decode cX8_oneTick 59 = .ok (.aload_n 0, 1) := by decide +kernel
theorem dX8_oneTick_60 : decode cX8_oneTick 60 = .ok (.aload_n 0, 1) := by decide +kernel
theorem dX8_oneTick_61 : decode cX8_oneTick 61 = .ok (.getfield 87, 3) := by decide +kernel
theorem dX8_oneTick_64 : decode cX8_oneTick 64 = .ok (.iload_n 1, 1) := by decide +kernel
theorem dX8_oneTick_65 : decode cX8_oneTick 65 = .ok (.iaload, 1) := by decide +kernel
theorem dX8_oneTick_66 : decode cX8_oneTick 66 = .ok (.invokevirtual 159, 3) := by decide +kernel
theorem dX8_oneTick_69 : decode cX8_oneTick 69 = .ok (.iinc 1 1, 3) := by decide +kernel
theorem dX8_oneTick_72 : decode cX8_oneTick 72 = .ok (.goto (-70), 3) := by decide +kernel
theorem dX8_oneTick_75 : decode cX8_oneTick 75 = .ok (.aload_n 0, 1) := by decide +kernel
theorem dX8_oneTick_76 : decode cX8_oneTick 76 = .ok (.getfield 150, 3) := by decide +kernel
theorem dX8_oneTick_79 : decode cX8_oneTick 79 = .ok (.istore_n 1, 1) := by decide +kernel
theorem dX8_oneTick_80 : decode cX8_oneTick 80 = .ok (.aload_n 0, 1) := by decide +kernel
theorem dX8_oneTick_81 : decode cX8_oneTick 81 = .ok (.getfield 133, 3) := by decide +kernel
theorem dX8_oneTick_84 : decode cX8_oneTick 84 = .ok (.istore_n 2, 1) := by decide +kernel
theorem dX8_oneTick_85 : decode cX8_oneTick 85 = .ok (.aload_n 0, 1) := by decide +kernel
theorem dX8_oneTick_86 : decode cX8_oneTick 86 = .ok (.getfield 130, 3) := by decide +kernel
theorem dX8_oneTick_89 : decode cX8_oneTick 89 = .ok (.istore_n 3, 1) := by decide +kernel
theorem dX8_oneTick_90 : decode cX8_oneTick 90 = .ok (.iload_n 3, 1) := by decide +kernel
theorem dX8_oneTick_91 : decode cX8_oneTick 91 = .ok (.aload_n 0, 1) := by decide +kernel
theorem dX8_oneTick_92 : decode cX8_oneTick 92 = .ok (.getfield 127, 3) := by decide +kernel
theorem dX8_oneTick_95 : decode cX8_oneTick 95 = .ok (.if_icmp .ge 51, 3) := by decide +kernel
theorem dX8_oneTick_98 : decode cX8_oneTick 98 = .ok (.iload_n 2, 1) := by decide +kernel
theorem dX8_oneTick_99 : decode cX8_oneTick 99 = .ok (.ifCond .le 47, 3) := by decide +kernel
theorem dX8_oneTick_102 : decode cX8_oneTick 102 = .ok (.aload_n 0, 1) := by decide +kernel
theorem dX8_oneTick_103 : decode cX8_oneTick 103 = .ok (.getfield 19, 3) := by decide +kernel
theorem dX8_oneTick_106 : decode cX8_oneTick 106 = .ok (.iload_n 3, 1) := by decide +kernel
theorem dX8_oneTick_107 : decode cX8_oneTick 107 = .ok (.iaload, 1) := by decide +kernel
theorem dX8_oneTick_108 : decode cX8_oneTick 108 = .ok (.iload_n 2, 1) := by decide +kernel
theorem dX8_oneTick_109 : decode cX8_oneTick 109 = .ok (.if_icmp .ge 12, 3) := by decide +kernel
theorem dX8_oneTick_112 : decode cX8_oneTick 112 = .ok (.aload_n 0, 1) := by decide +kernel
theorem dX8_oneTick_113 : decode cX8_oneTick 113 = .ok (.getfield 19, 3) := by decide +kernel
theorem dX8_oneTick_116 : decode cX8_oneTick 116 = .ok (.iload_n 3, 1) := by decide +kernel
theorem dX8_oneTick_117 : decode cX8_oneTick 117 = .ok (.iaload, 1) := by decide +kernel
theorem dX8_oneTick_118 : decode cX8_oneTick 118 = .ok (.goto 4, 3) := by decide +kernel
theorem dX8_oneTick_121 : decode cX8_oneTick 121 = .ok (.iload_n 2, 1) := by decide +kernel
theorem dX8_oneTick_122 : decode cX8_oneTick 122 = .ok (.istore 4, 2) := by decide +kernel
theorem dX8_oneTick_124 : decode cX8_oneTick 124 = .ok (.aload_n 0, 1) := by decide +kernel
theorem dX8_oneTick_125 : decode cX8_oneTick 125 = .ok (.getfield 19, 3) := by decide +kernel
theorem dX8_oneTick_128 : decode cX8_oneTick 128 = .ok (.iload_n 3, 1) := by decide +kernel
theorem dX8_oneTick_129 : decode cX8_oneTick 129 = .ok (.dup2, 1) := by decide +kernel
theorem dX8_oneTick_130 : decode cX8_oneTick 130 = .ok (.iaload, 1) := by decide +kernel
theorem dX8_oneTick_131 : decode cX8_oneTick 131 = .ok (.iload 4, 2) := by decide +kernel
theorem dX8_oneTick_133 : decode cX8_oneTick 133 = .ok (.isub, 1) := by decide +kernel
theorem dX8_oneTick_134 : decode cX8_oneTick 134 = .ok (.iastore, 1) := by decide +kernel
theorem dX8_oneTick_135 : decode cX8_oneTick 135 = .ok (.iload_n 2, 1) := by decide +kernel
theorem dX8_oneTick_136 : decode cX8_oneTick 136 = .ok (.iload 4, 2) := by decide +kernel
theorem dX8_oneTick_138 : decode cX8_oneTick 138 = .ok (.isub, 1) := by decide +kernel
theorem dX8_oneTick_139 : decode cX8_oneTick 139 = .ok (.istore_n 2, 1) := by decide +kernel
theorem dX8_oneTick_140 : decode cX8_oneTick 140 = .ok (.iinc 3 1, 3) := by decide +kernel
theorem dX8_oneTick_143 : decode cX8_oneTick 143 = .ok (.goto (-53), 3) := by decide +kernel
theorem dX8_oneTick_146 : decode cX8_oneTick 146 = .ok (.aload_n 0, 1) := by decide +kernel
theorem dX8_oneTick_147 : decode cX8_oneTick 147 = .ok (.getfield 133, 3) := by decide +kernel
theorem dX8_oneTick_150 : decode cX8_oneTick 150 = .ok (.iload_n 2, 1) := by decide +kernel
theorem dX8_oneTick_151 : decode cX8_oneTick 151 = .ok (.isub, 1) := by decide +kernel
theorem dX8_oneTick_152 : decode cX8_oneTick 152 = .ok (.istore_n 3, 1) := by decide +kernel
theorem dX8_oneTick_153 : decode cX8_oneTick 153 = .ok (.aload_n 0, 1) := by decide +kernel
theorem dX8_oneTick_154 : decode cX8_oneTick 154 = .ok (.dup, 1) := by decide +kernel
theorem dX8_oneTick_155 : decode cX8_oneTick 155 = .ok (.getfield 163, 3) := by decide +kernel
theorem dX8_oneTick_158 : decode cX8_oneTick 158 = .ok (.iload_n 3, 1) := by decide +kernel
theorem dX8_oneTick_159 : decode cX8_oneTick 159 = .ok (.iadd, 1) := by decide +kernel
theorem dX8_oneTick_160 : decode cX8_oneTick 160 = .ok (.putfield 163, 3) := by decide +kernel
theorem dX8_oneTick_163 : decode cX8_oneTick 163 = .ok (.aload_n 0, 1) := by decide +kernel
theorem dX8_oneTick_164 : decode cX8_oneTick 164 = .ok (.getfield 130, 3) := by decide +kernel
theorem dX8_oneTick_167 : decode cX8_oneTick 167 = .ok (.aload_n 0, 1) := by decide +kernel
theorem dX8_oneTick_168 : decode cX8_oneTick 168 = .ok (.getfield 127, 3) := by decide +kernel
theorem dX8_oneTick_171 : decode cX8_oneTick 171 = .ok (.if_icmp .ge 22, 3) := by decide +kernel
theorem dX8_oneTick_174 : decode cX8_oneTick 174 = .ok (.aload_n 0, 1) := by decide +kernel
theorem dX8_oneTick_175 : decode cX8_oneTick 175 = .ok (.getfield 19, 3) := by decide +kernel
theorem dX8_oneTick_178 : decode cX8_oneTick 178 = .ok (.aload_n 0, 1) := by decide +kernel
theorem dX8_oneTick_179 : decode cX8_oneTick 179 = .ok (.getfield 130, 3) := by decide +kernel
theorem dX8_oneTick_182 : decode cX8_oneTick 182 = .ok (.iaload, 1) := by decide +kernel
theorem dX8_oneTick_183 : decode cX8_oneTick 183 = .ok (.ifCond .ne 10, 3) := by decide +kernel
theorem dX8_oneTick_186 : decode cX8_oneTick 186 = .ok (.aload_n 0, 1) := by decide +kernel
theorem dX8_oneTick_187 : decode cX8_oneTick 187 = .ok (.invokevirtual 166, 3) := by decide +kernel
theorem dX8_oneTick_190 : decode cX8_oneTick 190 = .ok (.goto (-27), 3) := by decide +kernel
theorem dX8_oneTick_193 : decode cX8_oneTick 193 = .ok (.aload_n 0, 1) := by decide +kernel
theorem dX8_oneTick_194 : decode cX8_oneTick 194 = .ok (.aload_n 0, 1) := by decide +kernel
theorem dX8_oneTick_195 : decode cX8_oneTick 195 = .ok (.getfield 141, 3) := by decide +kernel
theorem dX8_oneTick_198 : decode cX8_oneTick 198 = .ok (.bipush 8, 2) := by decide +kernel
theorem dX8_oneTick_200 : decode cX8_oneTick 200 = .ok (.iload_n 3, 1) := by decide +kernel
theorem dX8_oneTick_201 : decode cX8_oneTick 201 = .ok (.imul, 1) := by decide +kernel
theorem dX8_oneTick_202 : decode cX8_oneTick 202 = .ok (.iadd, 1) := by decide +kernel
theorem dX8_oneTick_203 : decode cX8_oneTick 203 = .ok (.bipush 40, 2) := by decide +kernel
theorem dX8_oneTick_205 : decode cX8_oneTick 205 = .ok (.isub, 1) := by decide +kernel
theorem dX8_oneTick_206 : decode cX8_oneTick 206 = .ok (.putfield 141, 3) := by decide +kernel
theorem dX8_oneTick_209 : decode cX8_oneTick 209 = .ok (.aload_n 0, 1) := by decide +kernel
theorem dX8_oneTick_210 : decode cX8_oneTick 210 = .ok (.aload_n 0, 1) := by decide +kernel
theorem dX8_oneTick_211 : decode cX8_oneTick 211 = .ok (.getfield 141, 3) := by decide +kernel
theorem dX8_oneTick_214 : decode cX8_oneTick 214 = .ok (.ifCond .ge 7, 3) := by decide +kernel
theorem dX8_oneTick_217 : decode cX8_oneTick 217 = .ok (.iconst 0, 1) := by decide +kernel
theorem dX8_oneTick_218 : decode cX8_oneTick 218 = .ok (.goto 23, 3) := by decide +kernel
theorem dX8_oneTick_221 : decode cX8_oneTick 221 = .ok (.aload_n 0, 1) := by decide +kernel
theorem dX8_oneTick_222 : decode cX8_oneTick 222 = .ok (.getfield 141, 3) := by decide +kernel
theorem dX8_oneTick_225 : decode cX8_oneTick 225 = .ok (.sipush 1000, 3) := by decide +kernel
theorem dX8_oneTick_228 : decode cX8_oneTick 228 = .ok (.if_icmp .le 9, 3) := by decide +kernel
theorem dX8_oneTick_231 : decode cX8_oneTick 231 = .ok (.sipush 1000, 3) := by decide +kernel
theorem dX8_oneTick_234 : decode cX8_oneTick 234 = .ok (.goto 7, 3) := by decide +kernel
theorem dX8_oneTick_237 : decode cX8_oneTick 237 = .ok (.aload_n 0, 1) := by decide +kernel
theorem dX8_oneTick_238 : decode cX8_oneTick 238 = .ok (.getfield 141, 3) := by decide +kernel
theorem dX8_oneTick_241 : decode cX8_oneTick 241 = .ok (.putfield 141, 3) := by decide +kernel
theorem dX8_oneTick_244 : decode cX8_oneTick 244 = .ok (.aload_n 0, 1) := by decide +kernel
theorem dX8_oneTick_245 : decode cX8_oneTick 245 = .ok (.getfield 144, 3) := by decide +kernel
theorem dX8_oneTick_248 : decode cX8_oneTick 248 = .ok (.aload_n 0, 1) := by decide +kernel
theorem dX8_oneTick_249 : decode cX8_oneTick 249 = .ok (.getfield 37, 3) := by decide +kernel
theorem dX8_oneTick_252 : decode cX8_oneTick 252 = .ok (.if_icmp .le 47, 3) := by decide +kernel
theorem dX8_oneTick_255 : decode cX8_oneTick 255 = .ok (.aload_n 0, 1) := by decide +kernel
theorem dX8_oneTick_256 : decode cX8_oneTick 256 = .ok (.dup, 1) := by decide +kernel
theorem dX8_oneTick_257 : decode cX8_oneTick 257 = .ok (.getfield 169, 3) := by decide +kernel
theorem dX8_oneTick_260 : decode cX8_oneTick 260 = .ok (.aload_n 0, 1) := by decide +kernel
theorem dX8_oneTick_261 : decode cX8_oneTick 261 = .ok (.getfield 144, 3) := by decide +kernel
theorem dX8_oneTick_264 : decode cX8_oneTick 264 = .ok (.aload_n 0, 1) := by decide +kernel
theorem dX8_oneTick_265 : decode cX8_oneTick 265 = .ok (.getfield 37, 3) := by decide +kernel
theorem dX8_oneTick_268 : decode cX8_oneTick 268 = .ok (.isub, 1) := by decide +kernel
theorem dX8_oneTick_269 : decode cX8_oneTick 269 = .ok (.iadd, 1) := by decide +kernel
theorem dX8_oneTick_270 : decode cX8_oneTick 270 = .ok (.putfield 169, 3) := by decide +kernel
theorem dX8_oneTick_273 : decode cX8_oneTick 273 = .ok (.aload_n 0, 1) := by decide +kernel
theorem dX8_oneTick_274 : decode cX8_oneTick 274 = .ok (.dup, 1) := by decide +kernel
theorem dX8_oneTick_275 : decode cX8_oneTick 275 = .ok (.getfield 150, 3) := by decide +kernel
theorem dX8_oneTick_278 : decode cX8_oneTick 278 = .ok (.aload_n 0, 1) := by decide +kernel
theorem dX8_oneTick_279 : decode cX8_oneTick 279 = .ok (.getfield 144, 3) := by decide +kernel
theorem dX8_oneTick_282 : decode cX8_oneTick 282 = .ok (.aload_n 0, 1) := by decide +kernel
theorem dX8_oneTick_283 : decode cX8_oneTick 283 = .ok (.getfield 37, 3) := by decide +kernel
theorem dX8_oneTick_286 : decode cX8_oneTick 286 = .ok (.isub, 1) := by decide +kernel
theorem dX8_oneTick_287 : decode cX8_oneTick 287 = .ok (.iadd, 1) := by decide +kernel
theorem dX8_oneTick_288 : decode cX8_oneTick 288 = .ok (.putfield 150, 3) := by decide +kernel
theorem dX8_oneTick_291 : decode cX8_oneTick 291 = .ok (.aload_n 0, 1) := by decide +kernel
theorem dX8_oneTick_292 : decode cX8_oneTick 292 = .ok (.aload_n 0, 1) := by decide +kernel
theorem dX8_oneTick_293 : decode cX8_oneTick 293 = .ok (.getfield 37, 3) := by decide +kernel
theorem dX8_oneTick_296 : decode cX8_oneTick 296 = .ok (.putfield 144, 3) := by decide +kernel
theorem dX8_oneTick_299 : decode cX8_oneTick 299 = .ok (.aload_n 0, 1) := by decide +kernel
theorem dX8_oneTick_300 : decode cX8_oneTick 300 = .ok (.dup, 1) := by decide +kernel
theorem dX8_oneTick_301 : decode cX8_oneTick 301 = .ok (.getfield 172, 3) := by decide +kernel
theorem dX8_oneTick_304 : decode cX8_oneTick 304 = .ok (.aload_n 0, 1) := by decide +kernel
theorem dX8_oneTick_305 : decode cX8_oneTick 305 = .ok (.getfield 141, 3) := by decide +kernel
theorem dX8_oneTick_308 : decode cX8_oneTick 308 = .ok (.bipush 100, 2) := by decide +kernel
theorem dX8_oneTick_310 : decode cX8_oneTick 310 = .ok (.idiv, 1) := by decide +kernel
theorem dX8_oneTick_311 : decode cX8_oneTick 311 = .ok (.iadd, 1) := by decide +kernel
theorem dX8_oneTick_312 : decode cX8_oneTick 312 = .ok (.putfield 172, 3) := by decide +kernel
theorem dX8_oneTick_315 : decode cX8_oneTick 315 = .ok (.aload_n 0, 1) := by decide +kernel
theorem dX8_oneTick_316 : decode cX8_oneTick 316 = .ok (.aload_n 0, 1) := by decide +kernel
theorem dX8_oneTick_317 : decode cX8_oneTick 317 = .ok (.getfield 172, 3) := by decide +kernel
theorem dX8_oneTick_320 : decode cX8_oneTick 320 = .ok (.aload_n 0, 1) := by decide +kernel
theorem dX8_oneTick_321 : decode cX8_oneTick 321 = .ok (.getfield 41, 3) := by decide +kernel
theorem dX8_oneTick_324 : decode cX8_oneTick 324 = .ok (.if_icmp .lt 7, 3) := by decide +kernel
theorem dX8_oneTick_327 : decode cX8_oneTick 327 = .ok (.iconst 1, 1) := by decide +kernel
theorem dX8_oneTick_328 : decode cX8_oneTick 328 = .ok (.goto 4, 3) := by decide +kernel
theorem dX8_oneTick_331 : decode cX8_oneTick 331 = .ok (.iconst 0, 1) := by decide +kernel
theorem dX8_oneTick_332 : decode cX8_oneTick 332 = .ok (.putfield 175, 3) := by decide +kernel
theorem dX8_oneTick_335 : decode cX8_oneTick 335 = .ok (.aload_n 0, 1) := by decide +kernel
theorem dX8_oneTick_336 : decode cX8_oneTick 336 = .ok (.dup, 1) := by decide +kernel
theorem dX8_oneTick_337 : decode cX8_oneTick 337 = .ok (.getfield 179, 3) := by decide +kernel
theorem dX8_oneTick_340 : decode cX8_oneTick 340 = .ok (.iconst 1, 1) := by decide +kernel
theorem dX8_oneTick_341 : decode cX8_oneTick 341 = .ok (.iadd, 1) := by decide +kernel
theorem dX8_oneTick_342 : decode cX8_oneTick 342 = .ok (.putfield 179, 3) := by decide +kernel
theorem dX8_oneTick_345 : decode cX8_oneTick 345 = .ok (.aload_n 0, 1) := by decide +kernel
theorem dX8_oneTick_346 : decode cX8_oneTick 346 = .ok (.iconst 0, 1) := by decide +kernel
theorem dX8_oneTick_347 : decode cX8_oneTick 347 = .ok (.aload_n 0, 1) := by decide +kernel
theorem dX8_oneTick_348 : decode cX8_oneTick 348 = .ok (.getfield 141, 3) := by decide +kernel
theorem dX8_oneTick_351 : decode cX8_oneTick 351 = .ok (.bipush 10, 2) := by decide +kernel
theorem dX8_oneTick_353 : decode cX8_oneTick 353 = .ok (.idiv, 1) := by decide +kernel
theorem dX8_oneTick_354 : decode cX8_oneTick 354 = .ok (.invokevirtual 182, 3) := by decide +kernel
theorem dX8_oneTick_357 : decode cX8_oneTick 357 = .ok (.aload_n 0, 1) := by decide +kernel
theorem dX8_oneTick_358 : decode cX8_oneTick 358 = .ok (.iconst 1, 1) := by decide +kernel
theorem dX8_oneTick_359 : decode cX8_oneTick 359 = .ok (.aload_n 0, 1) := by decide +kernel
theorem dX8_oneTick_360 : decode cX8_oneTick 360 = .ok (.getfield 150, 3) := by decide +kernel
theorem dX8_oneTick_363 : decode cX8_oneTick 363 = .ok (.iload_n 1, 1) := by decide +kernel
theorem dX8_oneTick_364 : decode cX8_oneTick 364 = .ok (.isub, 1) := by decide +kernel
theorem dX8_oneTick_365 : decode cX8_oneTick 365 = .ok (.invokevirtual 182, 3) := by decide +kernel
theorem dX8_oneTick_368 : decode cX8_oneTick 368 = .ok (.aload_n 0, 1) := by decide +kernel
theorem dX8_oneTick_369 : decode cX8_oneTick 369 = .ok (.iconst 2, 1) := by decide +kernel
theorem dX8_oneTick_370 : decode cX8_oneTick 370 = .ok (.aload_n 0, 1) := by decide +kernel
theorem dX8_oneTick_371 : decode cX8_oneTick 371 = .ok (.getfield 144, 3) := by decide +kernel
theorem dX8_oneTick_374 : decode cX8_oneTick 374 = .ok (.invokevirtual 182, 3) := by decide +kernel
theorem dX8_oneTick_377 : decode cX8_oneTick 377 = .ok (.return_, 1) := by decide +kernel
theorem dX8_see_0 : decode cX8_see 0 = .ok (.aload_n 0, 1) := by decide +kernel
theorem dX8_see_1 : decode cX8_see 1 = .ok (.getfield 71, 3) := by decide +kernel
theorem dX8_see_4 : decode cX8_see 4 = .ok (.iload_n 1, 1) := by decide +kernel
theorem dX8_see_5 : decode cX8_see 5 = .ok (.aload_n 0, 1) := by decide +kernel
theorem dX8_see_6 : decode cX8_see 6 = .ok (.getfield 74, 3) := by decide +kernel
theorem dX8_see_9 : decode cX8_see 9 = .ok (.iload_n 1, 1) := by decide +kernel
theorem dX8_see_10 : decode cX8_see 10 = .ok (.iaload, 1) := by decide +kernel
theorem dX8_see_11 : decode cX8_see 11 = .ok (.ifCond .le 7, 3) := by decide +kernel
theorem dX8_see_14 : decode cX8_see 14 = .ok (.iconst (-1), 1) := by decide +kernel
theorem dX8_see_15 : decode cX8_see 15 = .ok (.goto 4, 3) := by decide +kernel
theorem dX8_see_18 : decode cX8_see 18 = .ok (.iload_n 2, 1) := by decide +kernel
theorem dX8_see_19 : decode cX8_see 19 = .ok (.iastore, 1) := by decide +kernel
theorem dX8_see_20 : decode cX8_see 20 = .ok (.aload_n 0, 1) := by decide +kernel
theorem dX8_see_21 : decode cX8_see 21 = .ok (.getfield 74, 3) := by decide +kernel
theorem dX8_see_24 : decode cX8_see 24 = .ok (.iload_n 1, 1) := by decide +kernel
theorem dX8_see_25 : decode cX8_see 25 = .ok (.dup2, 1) := by decide +kernel
theorem dX8_see_26 : decode cX8_see 26 = .ok (.iaload, 1) := by decide +kernel
theorem dX8_see_27 : decode cX8_see 27 = .ok (.aload_n 0, 1) := by decide +kernel
theorem dX8_see_28 : decode cX8_see 28 = .ok (.getfield 74, 3) := by decide +kernel
theorem dX8_see_31 : decode cX8_see 31 = .ok (.iload_n 1, 1) := by decide +kernel
theorem dX8_see_32 : decode cX8_see 32 = .ok (.iaload, 1) := by decide +kernel
theorem dX8_see_33 : decode cX8_see 33 = .ok (.ifCond .le 7, 3) := by decide +kernel
theorem dX8_see_36 : decode cX8_see 36 = .ok (.iconst 1, 1) := by decide +kernel
theorem dX8_see_37 : decode cX8_see 37 = .ok (.goto 4, 3) := by decide +kernel
theorem dX8_see_40 : decode cX8_see 40 = .ok (.iconst 0, 1) := by decide +kernel
theorem dX8_see_41 : decode cX8_see 41 = .ok (.isub, 1) := by decide +kernel
theorem dX8_see_42 : decode cX8_see 42 = .ok (.iastore, 1) := by decide +kernel
theorem dX8_see_43 : decode cX8_see 43 = .ok (.return_, 1) := by decide +kernel
theorem dX8_tick_0 : decode cX8_tick 0 = .ok (.iload_n 1, 1) := by decide +kernel
theorem dX8_tick_1 : decode cX8_tick 1 = .ok (.iconst 1, 1) := by decide +kernel
theorem dX8_tick_2 : decode cX8_tick 2 = .ok (.bipush 50, 2) := by decide +kernel
theorem dX8_tick_4 : decode cX8_tick 4 = .ok (.invokestatic 123, 3) := by decide +kernel
theorem dX8_tick_7 : decode cX8_tick 7 = .ok (.ifCond .ne 6, 3) := by decide +kernel
theorem dX8_tick_10 : decode cX8_tick 10 = .ok (.bipush (-2), 2) := by decide +kernel
theorem dX8_tick_12 : decode cX8_tick 12 = .ok (.ireturn, 1) := by decide +kernel
theorem dX8_tick_13 : decode cX8_tick 13 = .ok (.aload_n 0, 1) := by decide +kernel
theorem dX8_tick_14 : decode cX8_tick 14 = .ok (.getfield 175, 3) := by decide +kernel
theorem dX8_tick_17 : decode cX8_tick 17 = .ok (.ifCond .eq 6, 3) := by decide +kernel
theorem dX8_tick_20 : decode cX8_tick 20 = .ok (.bipush (-3), 2) := by decide +kernel
theorem dX8_tick_22 : decode cX8_tick 22 = .ok (.ireturn, 1) := by decide +kernel
theorem dX8_tick_23 : decode cX8_tick 23 = .ok (.aload_n 0, 1) := by decide +kernel
theorem dX8_tick_24 : decode cX8_tick 24 = .ok (.getfield 179, 3) := by decide +kernel
theorem dX8_tick_27 : decode cX8_tick 27 = .ok (.iload_n 1, 1) := by decide +kernel
theorem dX8_tick_28 : decode cX8_tick 28 = .ok (.iadd, 1) := by decide +kernel
theorem dX8_tick_29 : decode cX8_tick 29 = .ok (.sipush 5000, 3) := by decide +kernel
theorem dX8_tick_32 : decode cX8_tick 32 = .ok (.if_icmp .le 6, 3) := by decide +kernel
theorem dX8_tick_35 : decode cX8_tick 35 = .ok (.bipush (-4), 2) := by decide +kernel
theorem dX8_tick_37 : decode cX8_tick 37 = .ok (.ireturn, 1) := by decide +kernel
theorem dX8_tick_38 : decode cX8_tick 38 = .ok (.iconst 0, 1) := by decide +kernel
theorem dX8_tick_39 : decode cX8_tick 39 = .ok (.istore_n 2, 1) := by decide +kernel
theorem dX8_tick_40 : decode cX8_tick 40 = .ok (.iload_n 2, 1) := by decide +kernel
theorem dX8_tick_41 : decode cX8_tick 41 = .ok (.iload_n 1, 1) := by decide +kernel
theorem dX8_tick_42 : decode cX8_tick 42 = .ok (.if_icmp .ge 20, 3) := by decide +kernel
theorem dX8_tick_45 : decode cX8_tick 45 = .ok (.aload_n 0, 1) := by decide +kernel
theorem dX8_tick_46 : decode cX8_tick 46 = .ok (.getfield 175, 3) := by decide +kernel
theorem dX8_tick_49 : decode cX8_tick 49 = .ok (.ifCond .ne 13, 3) := by decide +kernel
theorem dX8_tick_52 : decode cX8_tick 52 = .ok (.aload_n 0, 1) := by decide +kernel
theorem dX8_tick_53 : decode cX8_tick 53 = .ok (.invokevirtual 186, 3) := by decide +kernel
theorem dX8_tick_56 : decode cX8_tick 56 = .ok (.iinc 2 1, 3) := by decide +kernel
theorem dX8_tick_59 : decode cX8_tick 59 = .ok (.goto (-19), 3) := by decide +kernel
theorem dX8_tick_62 : decode cX8_tick 62 = .ok (.iload_n 2, 1) := by decide +kernel
theorem dX8_tick_63 : decode cX8_tick 63 = .ok (.ireturn, 1) := by decide +kernel
theorem dX8_tap_0 : decode cX8_tap 0 = .ok (.aload_n 0, 1) := by decide +kernel
theorem dX8_tap_1 : decode cX8_tap 1 = .ok (.getfield 144, 3) := by decide +kernel
theorem dX8_tap_4 : decode cX8_tap 4 = .ok (.ifCond .ne 5, 3) := by decide +kernel
theorem dX8_tap_7 : decode cX8_tap 7 = .ok (.iconst (-1), 1) := by decide +kernel
theorem dX8_tap_8 : decode cX8_tap 8 = .ok (.ireturn, 1) := by decide +kernel
theorem dX8_tap_9 : decode cX8_tap 9 = .ok (.aload_n 0, 1) := by decide +kernel
theorem dX8_tap_10 : decode cX8_tap 10 = .ok (.getfield 189, 3) := by decide +kernel
theorem dX8_tap_13 : decode cX8_tap 13 = .ok (.bipush 60, 2) := by decide +kernel
theorem dX8_tap_15 : decode cX8_tap 15 = .ok (.if_icmp .ne 6, 3) := by decide +kernel
theorem dX8_tap_18 : decode cX8_tap 18 = .ok (.bipush (-4), 2) := by decide +kernel
theorem dX8_tap_20 : decode cX8_tap 20 = .ok (.ireturn, 1) := by decide +kernel
theorem dX8_tap_21 : decode cX8_tap 21 = .ok (.aload_n 0, 1) := by decide +kernel
theorem dX8_tap_22 : decode cX8_tap 22 = .ok (.getfield 53, 3) := by decide +kernel
theorem dX8_tap_25 : decode cX8_tap 25 = .ok (.aload_n 0, 1) := by decide +kernel
theorem dX8_tap_26 : decode cX8_tap 26 = .ok (.getfield 189, 3) := by decide +kernel
theorem dX8_tap_29 : decode cX8_tap 29 = .ok (.aload_n 0, 1) := by decide +kernel
theorem dX8_tap_30 : decode cX8_tap 30 = .ok (.getfield 144, 3) := by decide +kernel
theorem dX8_tap_33 : decode cX8_tap 33 = .ok (.iastore, 1) := by decide +kernel
theorem dX8_tap_34 : decode cX8_tap 34 = .ok (.aload_n 0, 1) := by decide +kernel
theorem dX8_tap_35 : decode cX8_tap 35 = .ok (.getfield 56, 3) := by decide +kernel
theorem dX8_tap_38 : decode cX8_tap 38 = .ok (.aload_n 0, 1) := by decide +kernel
theorem dX8_tap_39 : decode cX8_tap 39 = .ok (.getfield 189, 3) := by decide +kernel
theorem dX8_tap_42 : decode cX8_tap 42 = .ok (.aload_n 0, 1) := by decide +kernel
theorem dX8_tap_43 : decode cX8_tap 43 = .ok (.getfield 44, 3) := by decide +kernel
theorem dX8_tap_46 : decode cX8_tap 46 = .ok (.iastore, 1) := by decide +kernel
theorem dX8_tap_47 : decode cX8_tap 47 = .ok (.aload_n 0, 1) := by decide +kernel
theorem dX8_tap_48 : decode cX8_tap 48 = .ok (.getfield 59, 3) := by decide +kernel
theorem dX8_tap_51 : decode cX8_tap 51 = .ok (.aload_n 0, 1) := by decide +kernel
theorem dX8_tap_52 : decode cX8_tap 52 = .ok (.getfield 189, 3) := by decide +kernel
theorem dX8_tap_55 : decode cX8_tap 55 = .ok (.aload_n 0, 1) := by decide +kernel
theorem dX8_tap_56 : decode cX8_tap 56 = .ok (.getfield 47, 3) := by decide +kernel
theorem dX8_tap_59 : decode cX8_tap 59 = .ok (.iastore, 1) := by decide +kernel
theorem dX8_tap_60 : decode cX8_tap 60 = .ok (.aload_n 0, 1) := by decide +kernel
theorem dX8_tap_61 : decode cX8_tap 61 = .ok (.getfield 62, 3) := by decide +kernel
theorem dX8_tap_64 : decode cX8_tap 64 = .ok (.aload_n 0, 1) := by decide +kernel
theorem dX8_tap_65 : decode cX8_tap 65 = .ok (.getfield 189, 3) := by decide +kernel
theorem dX8_tap_68 : decode cX8_tap 68 = .ok (.aload_n 0, 1) := by decide +kernel
theorem dX8_tap_69 : decode cX8_tap 69 = .ok (.getfield 50, 3) := by decide +kernel
theorem dX8_tap_72 : decode cX8_tap 72 = .ok (.iastore, 1) := by decide +kernel
theorem dX8_tap_73 : decode cX8_tap 73 = .ok (.aload_n 0, 1) := by decide +kernel
theorem dX8_tap_74 : decode cX8_tap 74 = .ok (.getfield 65, 3) := by decide +kernel
theorem dX8_tap_77 : decode cX8_tap 77 = .ok (.aload_n 0, 1) := by decide +kernel
theorem dX8_tap_78 : decode cX8_tap 78 = .ok (.getfield 189, 3) := by decide +kernel
theorem dX8_tap_81 : decode cX8_tap 81 = .ok (.aload_n 0, 1) := by decide +kernel
theorem dX8_tap_82 : decode cX8_tap 82 = .ok (.getfield 179, 3) := by decide +kernel
theorem dX8_tap_85 : decode cX8_tap 85 = .ok (.iastore, 1) := by decide +kernel
theorem dX8_tap_86 : decode cX8_tap 86 = .ok (.aload_n 0, 1) := by decide +kernel
theorem dX8_tap_87 : decode cX8_tap 87 = .ok (.getfield 68, 3) := by decide +kernel
theorem dX8_tap_90 : decode cX8_tap 90 = .ok (.aload_n 0, 1) := by decide +kernel
theorem dX8_tap_91 : decode cX8_tap 91 = .ok (.getfield 189, 3) := by decide +kernel
theorem dX8_tap_94 : decode cX8_tap 94 = .ok (.iconst (-1), 1) := by decide +kernel
theorem dX8_tap_95 : decode cX8_tap 95 = .ok (.iastore, 1) := by decide +kernel
theorem dX8_tap_96 : decode cX8_tap 96 = .ok (.aload_n 0, 1) := by decide +kernel
theorem dX8_tap_97 : decode cX8_tap 97 = .ok (.dup, 1) := by decide +kernel
theorem dX8_tap_98 : decode cX8_tap 98 = .ok (.getfield 189, 3) := by decide +kernel
theorem dX8_tap_101 : decode cX8_tap 101 = .ok (.iconst 1, 1) := by decide +kernel
theorem dX8_tap_102 : decode cX8_tap 102 = .ok (.iadd, 1) := by decide +kernel
theorem dX8_tap_103 : decode cX8_tap 103 = .ok (.putfield 189, 3) := by decide +kernel
theorem dX8_tap_106 : decode cX8_tap 106 = .ok (.aload_n 0, 1) := by decide +kernel
theorem dX8_tap_107 : decode cX8_tap 107 = .ok (.iconst 0, 1) := by decide +kernel
theorem dX8_tap_108 : decode cX8_tap 108 = .ok (.putfield 144, 3) := by decide +kernel
theorem dX8_tap_111 : decode cX8_tap 111 = .ok (.aload_n 0, 1) := by decide +kernel
theorem dX8_tap_112 : decode cX8_tap 112 = .ok (.iconst (-1), 1) := by decide +kernel
theorem dX8_tap_113 : decode cX8_tap 113 = .ok (.putfield 44, 3) := by decide +kernel
theorem dX8_tap_116 : decode cX8_tap 116 = .ok (.aload_n 0, 1) := by decide +kernel
theorem dX8_tap_117 : decode cX8_tap 117 = .ok (.iconst (-1), 1) := by decide +kernel
theorem dX8_tap_118 : decode cX8_tap 118 = .ok (.putfield 47, 3) := by decide +kernel
theorem dX8_tap_121 : decode cX8_tap 121 = .ok (.aload_n 0, 1) := by decide +kernel
theorem dX8_tap_122 : decode cX8_tap 122 = .ok (.iconst (-1), 1) := by decide +kernel
theorem dX8_tap_123 : decode cX8_tap 123 = .ok (.putfield 50, 3) := by decide +kernel
theorem dX8_tap_126 : decode cX8_tap 126 = .ok (.aload_n 0, 1) := by decide +kernel
theorem dX8_tap_127 : decode cX8_tap 127 = .ok (.getfield 189, 3) := by decide +kernel
theorem dX8_tap_130 : decode cX8_tap 130 = .ok (.iconst 1, 1) := by decide +kernel
theorem dX8_tap_131 : decode cX8_tap 131 = .ok (.isub, 1) := by decide +kernel
theorem dX8_tap_132 : decode cX8_tap 132 = .ok (.ireturn, 1) := by decide +kernel
theorem dX8_about_0 : decode cX8_about 0 = .ok (.iload_n 1, 1) := by decide +kernel
theorem dX8_about_1 : decode cX8_about 1 = .ok (.tableswitch 136 0 11 #[63, 68, 73, 78, 83, 88, 98, 103, 108, 113, 126, 131], 63) := by decide +kernel
theorem dX8_about_64 : decode cX8_about 64 = .ok (.aload_n 0, 1) := by decide +kernel
theorem dX8_about_65 : decode cX8_about 65 = .ok (.getfield 141, 3) := by decide +kernel
theorem dX8_about_68 : decode cX8_about 68 = .ok (.ireturn, 1) := by decide +kernel
theorem dX8_about_69 : decode cX8_about 69 = .ok (.aload_n 0, 1) := by decide +kernel
theorem dX8_about_70 : decode cX8_about 70 = .ok (.getfield 144, 3) := by decide +kernel
theorem dX8_about_73 : decode cX8_about 73 = .ok (.ireturn, 1) := by decide +kernel
theorem dX8_about_74 : decode cX8_about 74 = .ok (.aload_n 0, 1) := by decide +kernel
theorem dX8_about_75 : decode cX8_about 75 = .ok (.getfield 150, 3) := by decide +kernel
theorem dX8_about_78 : decode cX8_about 78 = .ok (.ireturn, 1) := by decide +kernel
theorem dX8_about_79 : decode cX8_about 79 = .ok (.aload_n 0, 1) := by decide +kernel
theorem dX8_about_80 : decode cX8_about 80 = .ok (.getfield 172, 3) := by decide +kernel
theorem dX8_about_83 : decode cX8_about 83 = .ok (.ireturn, 1) := by decide +kernel
theorem dX8_about_84 : decode cX8_about 84 = .ok (.aload_n 0, 1) := by decide +kernel
theorem dX8_about_85 : decode cX8_about 85 = .ok (.getfield 179, 3) := by decide +kernel
theorem dX8_about_88 : decode cX8_about 88 = .ok (.ireturn, 1) := by decide +kernel
theorem dX8_about_89 : decode cX8_about 89 = .ok (.aload_n 0, 1) := by decide +kernel
theorem dX8_about_90 : decode cX8_about 90 = .ok (.getfield 127, 3) := by decide +kernel
theorem dX8_about_93 : decode cX8_about 93 = .ok (.aload_n 0, 1) := by decide +kernel
theorem dX8_about_94 : decode cX8_about 94 = .ok (.getfield 130, 3) := by decide +kernel
theorem dX8_about_97 : decode cX8_about 97 = .ok (.isub, 1) := by decide +kernel
theorem dX8_about_98 : decode cX8_about 98 = .ok (.ireturn, 1) := by decide +kernel
theorem dX8_about_99 : decode cX8_about 99 = .ok (.aload_n 0, 1) := by decide +kernel
theorem dX8_about_100 : decode cX8_about 100 = .ok (.getfield 163, 3) := by decide +kernel
theorem dX8_about_103 : decode cX8_about 103 = .ok (.ireturn, 1) := by decide +kernel
theorem dX8_about_104 : decode cX8_about 104 = .ok (.aload_n 0, 1) := by decide +kernel
theorem dX8_about_105 : decode cX8_about 105 = .ok (.getfield 153, 3) := by decide +kernel
theorem dX8_about_108 : decode cX8_about 108 = .ok (.ireturn, 1) := by decide +kernel
theorem dX8_about_109 : decode cX8_about 109 = .ok (.aload_n 0, 1) := by decide +kernel
theorem dX8_about_110 : decode cX8_about 110 = .ok (.getfield 169, 3) := by decide +kernel
theorem dX8_about_113 : decode cX8_about 113 = .ok (.ireturn, 1) := by decide +kernel
theorem dX8_about_114 : decode cX8_about 114 = .ok (.aload_n 0, 1) := by decide +kernel
theorem dX8_about_115 : decode cX8_about 115 = .ok (.getfield 175, 3) := by decide +kernel
theorem dX8_about_118 : decode cX8_about 118 = .ok (.ifCond .eq 7, 3) := by decide +kernel
theorem dX8_about_121 : decode cX8_about 121 = .ok (.iconst 1, 1) := by decide +kernel
theorem dX8_about_122 : decode cX8_about 122 = .ok (.goto 4, 3) := by decide +kernel
theorem dX8_about_125 : decode cX8_about 125 = .ok (.iconst 0, 1) := by decide +kernel
theorem dX8_about_126 : decode cX8_about 126 = .ok (.ireturn, 1) := by decide +kernel
theorem dX8_about_127 : decode cX8_about 127 = .ok (.aload_n 0, 1) := by decide +kernel
theorem dX8_about_128 : decode cX8_about 128 = .ok (.getfield 147, 3) := by decide +kernel
theorem dX8_about_131 : decode cX8_about 131 = .ok (.ireturn, 1) := by decide +kernel
theorem dX8_about_132 : decode cX8_about 132 = .ok (.aload_n 0, 1) := by decide +kernel
theorem dX8_about_133 : decode cX8_about 133 = .ok (.getfield 133, 3) := by decide +kernel
theorem dX8_about_136 : decode cX8_about 136 = .ok (.ireturn, 1) := by decide +kernel
theorem dX8_about_137 : decode cX8_about 137 = .ok (.bipush (-2), 2) := by decide +kernel
theorem dX8_about_139 : decode cX8_about 139 = .ok (.ireturn, 1) := by decide +kernel
theorem dX8_pig_0 : decode cX8_pig 0 = .ok (.iload_n 1, 1) := by decide +kernel
theorem dX8_pig_1 : decode cX8_pig 1 = .ok (.ifCond .lt 12, 3) := by decide +kernel
theorem dX8_pig_4 : decode cX8_pig 4 = .ok (.iload_n 2, 1) := by decide +kernel
theorem dX8_pig_5 : decode cX8_pig 5 = .ok (.iconst 0, 1) := by decide +kernel
theorem dX8_pig_6 : decode cX8_pig 6 = .ok (.iconst 5, 1) := by decide +kernel
theorem dX8_pig_7 : decode cX8_pig 7 = .ok (.invokestatic 123, 3) := by decide +kernel
theorem dX8_pig_10 : decode cX8_pig 10 = .ok (.ifCond .ne 6, 3) := by decide +kernel
theorem dX8_pig_13 : decode cX8_pig 13 = .ok (.bipush (-2), 2) := by decide +kernel
theorem dX8_pig_15 : decode cX8_pig 15 = .ok (.ireturn, 1) := by decide +kernel
theorem dX8_pig_16 : decode cX8_pig 16 = .ok (.iload_n 1, 1) := by decide +kernel
theorem dX8_pig_17 : decode cX8_pig 17 = .ok (.aload_n 0, 1) := by decide +kernel
theorem dX8_pig_18 : decode cX8_pig 18 = .ok (.getfield 189, 3) := by decide +kernel
theorem dX8_pig_21 : decode cX8_pig 21 = .ok (.if_icmp .lt 5, 3) := by decide +kernel
theorem dX8_pig_24 : decode cX8_pig 24 = .ok (.iconst (-1), 1) := by decide +kernel
theorem dX8_pig_25 : decode cX8_pig 25 = .ok (.ireturn, 1) := by decide +kernel
theorem dX8_pig_26 : decode cX8_pig 26 = .ok (.iload_n 2, 1) := by decide +kernel
theorem dX8_pig_27 : decode cX8_pig 27 = .ok (.tableswitch 68 0 4 #[33, 40, 47, 54, 61], 33) := by decide +kernel
theorem dX8_pig_60 : decode cX8_pig 60 = .ok (.aload_n 0, 1) := by decide +kernel
theorem dX8_pig_61 : decode cX8_pig 61 = .ok (.getfield 53, 3) := by decide +kernel
theorem dX8_pig_64 : decode cX8_pig 64 = .ok (.iload_n 1, 1) := by decide +kernel
theorem dX8_pig_65 : decode cX8_pig 65 = .ok (.iaload, 1) := by decide +kernel
theorem dX8_pig_66 : decode cX8_pig 66 = .ok (.ireturn, 1) := by decide +kernel
theorem dX8_pig_67 : decode cX8_pig 67 = .ok (.aload_n 0, 1) := by decide +kernel
theorem dX8_pig_68 : decode cX8_pig 68 = .ok (.getfield 56, 3) := by decide +kernel
theorem dX8_pig_71 : decode cX8_pig 71 = .ok (.iload_n 1, 1) := by decide +kernel
theorem dX8_pig_72 : decode cX8_pig 72 = .ok (.iaload, 1) := by decide +kernel
theorem dX8_pig_73 : decode cX8_pig 73 = .ok (.ireturn, 1) := by decide +kernel
theorem dX8_pig_74 : decode cX8_pig 74 = .ok (.aload_n 0, 1) := by decide +kernel
theorem dX8_pig_75 : decode cX8_pig 75 = .ok (.getfield 59, 3) := by decide +kernel
theorem dX8_pig_78 : decode cX8_pig 78 = .ok (.iload_n 1, 1) := by decide +kernel
theorem dX8_pig_79 : decode cX8_pig 79 = .ok (.iaload, 1) := by decide +kernel
theorem dX8_pig_80 : decode cX8_pig 80 = .ok (.ireturn, 1) := by decide +kernel
theorem dX8_pig_81 : decode cX8_pig 81 = .ok (.aload_n 0, 1) := by decide +kernel
theorem dX8_pig_82 : decode cX8_pig 82 = .ok (.getfield 62, 3) := by decide +kernel
theorem dX8_pig_85 : decode cX8_pig 85 = .ok (.iload_n 1, 1) := by decide +kernel
theorem dX8_pig_86 : decode cX8_pig 86 = .ok (.iaload, 1) := by decide +kernel
theorem dX8_pig_87 : decode cX8_pig 87 = .ok (.ireturn, 1) := by decide +kernel
theorem dX8_pig_88 : decode cX8_pig 88 = .ok (.aload_n 0, 1) := by decide +kernel
theorem dX8_pig_89 : decode cX8_pig 89 = .ok (.getfield 65, 3) := by decide +kernel
theorem dX8_pig_92 : decode cX8_pig 92 = .ok (.iload_n 1, 1) := by decide +kernel
theorem dX8_pig_93 : decode cX8_pig 93 = .ok (.iaload, 1) := by decide +kernel
theorem dX8_pig_94 : decode cX8_pig 94 = .ok (.ireturn, 1) := by decide +kernel
theorem dX8_pig_95 : decode cX8_pig 95 = .ok (.aload_n 0, 1) := by decide +kernel
theorem dX8_pig_96 : decode cX8_pig 96 = .ok (.getfield 68, 3) := by decide +kernel
theorem dX8_pig_99 : decode cX8_pig 99 = .ok (.iload_n 1, 1) := by decide +kernel
theorem dX8_pig_100 : decode cX8_pig 100 = .ok (.iaload, 1) := by decide +kernel
theorem dX8_pig_101 : decode cX8_pig 101 = .ok (.ireturn, 1) := by decide +kernel
theorem dX8_sign_0 : decode cX8_sign 0 = .ok (.iload_n 1, 1) := by decide +kernel
theorem dX8_sign_1 : decode cX8_sign 1 = .ok (.iconst 0, 1) := by decide +kernel
theorem dX8_sign_2 : decode cX8_sign 2 = .ok (.iconst 2, 1) := by decide +kernel
theorem dX8_sign_3 : decode cX8_sign 3 = .ok (.invokestatic 123, 3) := by decide +kernel
theorem dX8_sign_6 : decode cX8_sign 6 = .ok (.ifCond .eq 12, 3) := by decide +kernel
theorem dX8_sign_9 : decode cX8_sign 9 = .ok (.aload_n 0, 1) := by decide +kernel
theorem dX8_sign_10 : decode cX8_sign 10 = .ok (.getfield 71, 3) := by decide +kernel
theorem dX8_sign_13 : decode cX8_sign 13 = .ok (.iload_n 1, 1) := by decide +kernel
theorem dX8_sign_14 : decode cX8_sign 14 = .ok (.iaload, 1) := by decide +kernel
theorem dX8_sign_15 : decode cX8_sign 15 = .ok (.goto 5, 3) := by decide +kernel
theorem dX8_sign_18 : decode cX8_sign 18 = .ok (.bipush (-2), 2) := by decide +kernel
theorem dX8_sign_20 : decode cX8_sign 20 = .ok (.ireturn, 1) := by decide +kernel
theorem dX8_lose_0 : decode cX8_lose 0 = .ok (.iload_n 1, 1) := by decide +kernel
theorem dX8_lose_1 : decode cX8_lose 1 = .ok (.iconst 0, 1) := by decide +kernel
theorem dX8_lose_2 : decode cX8_lose 2 = .ok (.iconst 2, 1) := by decide +kernel
theorem dX8_lose_3 : decode cX8_lose 3 = .ok (.invokestatic 123, 3) := by decide +kernel
theorem dX8_lose_6 : decode cX8_lose 6 = .ok (.ifCond .eq 13, 3) := by decide +kernel
theorem dX8_lose_9 : decode cX8_lose 9 = .ok (.iload_n 2, 1) := by decide +kernel
theorem dX8_lose_10 : decode cX8_lose 10 = .ok (.iconst 0, 1) := by decide +kernel
theorem dX8_lose_11 : decode cX8_lose 11 = .ok (.bipush 50, 2) := by decide +kernel
theorem dX8_lose_13 : decode cX8_lose 13 = .ok (.invokestatic 123, 3) := by decide +kernel
theorem dX8_lose_16 : decode cX8_lose 16 = .ok (.ifCond .ne 6, 3) := by decide +kernel
theorem dX8_lose_19 : decode cX8_lose 19 = .ok (.bipush (-2), 2) := by decide +kernel
theorem dX8_lose_21 : decode cX8_lose 21 = .ok (.ireturn, 1) := by decide +kernel
theorem dX8_lose_22 : decode cX8_lose 22 = .ok (.aload_n 0, 1) := by decide +kernel
theorem dX8_lose_23 : decode cX8_lose 23 = .ok (.getfield 74, 3) := by decide +kernel
theorem dX8_lose_26 : decode cX8_lose 26 = .ok (.iload_n 1, 1) := by decide +kernel
theorem dX8_lose_27 : decode cX8_lose 27 = .ok (.iload_n 2, 1) := by decide +kernel
theorem dX8_lose_28 : decode cX8_lose 28 = .ok (.iastore, 1) := by decide +kernel
theorem dX8_lose_29 : decode cX8_lose 29 = .ok (.iconst 1, 1) := by decide +kernel
theorem dX8_lose_30 : decode cX8_lose 30 = .ok (.ireturn, 1) := by decide +kernel
theorem dX8_rule_0 : decode cX8_rule 0 = .ok (.iload_n 1, 1) := by decide +kernel
theorem dX8_rule_1 : decode cX8_rule 1 = .ok (.iconst 0, 1) := by decide +kernel
theorem dX8_rule_2 : decode cX8_rule 2 = .ok (.iconst 2, 1) := by decide +kernel
theorem dX8_rule_3 : decode cX8_rule 3 = .ok (.invokestatic 123, 3) := by decide +kernel
theorem dX8_rule_6 : decode cX8_rule 6 = .ok (.ifCond .eq 24, 3) := by decide +kernel
theorem dX8_rule_9 : decode cX8_rule 9 = .ok (.iload_n 3, 1) := by decide +kernel
theorem dX8_rule_10 : decode cX8_rule 10 = .ok (.iconst 0, 1) := by decide +kernel
theorem dX8_rule_11 : decode cX8_rule 11 = .ok (.sipush 1000, 3) := by decide +kernel
theorem dX8_rule_14 : decode cX8_rule 14 = .ok (.invokestatic 123, 3) := by decide +kernel
theorem dX8_rule_17 : decode cX8_rule 17 = .ok (.ifCond .eq 13, 3) := by decide +kernel
theorem dX8_rule_20 : decode cX8_rule 20 = .ok (.iload 4, 2) := by decide +kernel
theorem dX8_rule_22 : decode cX8_rule 22 = .ok (.iconst 0, 1) := by decide +kernel
theorem dX8_rule_23 : decode cX8_rule 23 = .ok (.iconst 2, 1) := by decide +kernel
theorem dX8_rule_24 : decode cX8_rule 24 = .ok (.invokestatic 123, 3) := by decide +kernel
theorem dX8_rule_27 : decode cX8_rule 27 = .ok (.ifCond .ne 6, 3) := by decide +kernel
theorem dX8_rule_30 : decode cX8_rule 30 = .ok (.bipush (-2), 2) := by decide +kernel
theorem dX8_rule_32 : decode cX8_rule 32 = .ok (.ireturn, 1) := by decide +kernel
theorem dX8_rule_33 : decode cX8_rule 33 = .ok (.aload_n 0, 1) := by decide +kernel
theorem dX8_rule_34 : decode cX8_rule 34 = .ok (.getfield 156, 3) := by decide +kernel
theorem dX8_rule_37 : decode cX8_rule 37 = .ok (.bipush 8, 2) := by decide +kernel
theorem dX8_rule_39 : decode cX8_rule 39 = .ok (.if_icmp .ne 6, 3) := by decide +kernel
theorem dX8_rule_42 : decode cX8_rule 42 = .ok (.bipush (-4), 2) := by decide +kernel
theorem dX8_rule_44 : decode cX8_rule 44 = .ok (.ireturn, 1) := by decide +kernel
theorem dX8_rule_45 : decode cX8_rule 45 = .ok (.aload_n 0, 1) := by decide +kernel
theorem dX8_rule_46 : decode cX8_rule 46 = .ok (.getfield 77, 3) := by decide +kernel
theorem dX8_rule_49 : decode cX8_rule 49 = .ok (.aload_n 0, 1) := by decide +kernel
theorem dX8_rule_50 : decode cX8_rule 50 = .ok (.getfield 156, 3) := by decide +kernel
theorem dX8_rule_53 : decode cX8_rule 53 = .ok (.iload_n 1, 1) := by decide +kernel
theorem dX8_rule_54 : decode cX8_rule 54 = .ok (.iastore, 1) := by decide +kernel
theorem dX8_rule_55 : decode cX8_rule 55 = .ok (.aload_n 0, 1) := by decide +kernel
theorem dX8_rule_56 : decode cX8_rule 56 = .ok (.getfield 80, 3) := by decide +kernel
theorem dX8_rule_59 : decode cX8_rule 59 = .ok (.aload_n 0, 1) := by decide +kernel
theorem dX8_rule_60 : decode cX8_rule 60 = .ok (.getfield 156, 3) := by decide +kernel
theorem dX8_rule_63 : decode cX8_rule 63 = .ok (.iload_n 2, 1) := by decide +kernel
theorem dX8_rule_64 : decode cX8_rule 64 = .ok (.bastore, 1) := by decide +kernel
theorem dX8_rule_65 : decode cX8_rule 65 = .ok (.aload_n 0, 1) := by decide +kernel
theorem dX8_rule_66 : decode cX8_rule 66 = .ok (.getfield 84, 3) := by decide +kernel
theorem dX8_rule_69 : decode cX8_rule 69 = .ok (.aload_n 0, 1) := by decide +kernel
theorem dX8_rule_70 : decode cX8_rule 70 = .ok (.getfield 156, 3) := by decide +kernel
theorem dX8_rule_73 : decode cX8_rule 73 = .ok (.iload_n 3, 1) := by decide +kernel
theorem dX8_rule_74 : decode cX8_rule 74 = .ok (.iastore, 1) := by decide +kernel
theorem dX8_rule_75 : decode cX8_rule 75 = .ok (.aload_n 0, 1) := by decide +kernel
theorem dX8_rule_76 : decode cX8_rule 76 = .ok (.getfield 87, 3) := by decide +kernel
theorem dX8_rule_79 : decode cX8_rule 79 = .ok (.aload_n 0, 1) := by decide +kernel
theorem dX8_rule_80 : decode cX8_rule 80 = .ok (.getfield 156, 3) := by decide +kernel
theorem dX8_rule_83 : decode cX8_rule 83 = .ok (.iload 4, 2) := by decide +kernel
theorem dX8_rule_85 : decode cX8_rule 85 = .ok (.iastore, 1) := by decide +kernel
theorem dX8_rule_86 : decode cX8_rule 86 = .ok (.aload_n 0, 1) := by decide +kernel
theorem dX8_rule_87 : decode cX8_rule 87 = .ok (.dup, 1) := by decide +kernel
theorem dX8_rule_88 : decode cX8_rule 88 = .ok (.getfield 156, 3) := by decide +kernel
theorem dX8_rule_91 : decode cX8_rule 91 = .ok (.iconst 1, 1) := by decide +kernel
theorem dX8_rule_92 : decode cX8_rule 92 = .ok (.iadd, 1) := by decide +kernel
theorem dX8_rule_93 : decode cX8_rule 93 = .ok (.putfield 156, 3) := by decide +kernel
theorem dX8_rule_96 : decode cX8_rule 96 = .ok (.aload_n 0, 1) := by decide +kernel
theorem dX8_rule_97 : decode cX8_rule 97 = .ok (.getfield 156, 3) := by decide +kernel
theorem dX8_rule_100 : decode cX8_rule 100 = .ok (.iconst 1, 1) := by decide +kernel
theorem dX8_rule_101 : decode cX8_rule 101 = .ok (.isub, 1) := by decide +kernel
theorem dX8_rule_102 : decode cX8_rule 102 = .ok (.ireturn, 1) := by decide +kernel
theorem dX8_unrule_0 : decode cX8_unrule 0 = .ok (.aload_n 0, 1) := by decide +kernel
theorem dX8_unrule_1 : decode cX8_unrule 1 = .ok (.getfield 156, 3) := by decide +kernel
theorem dX8_unrule_4 : decode cX8_unrule 4 = .ok (.istore_n 1, 1) := by decide +kernel
theorem dX8_unrule_5 : decode cX8_unrule 5 = .ok (.aload_n 0, 1) := by decide +kernel
theorem dX8_unrule_6 : decode cX8_unrule 6 = .ok (.iconst 0, 1) := by decide +kernel
theorem dX8_unrule_7 : decode cX8_unrule 7 = .ok (.putfield 156, 3) := by decide +kernel
theorem dX8_unrule_10 : decode cX8_unrule 10 = .ok (.iload_n 1, 1) := by decide +kernel
theorem dX8_unrule_11 : decode cX8_unrule 11 = .ok (.ireturn, 1) := by decide +kernel
theorem dX8_forge_0 : decode cX8_forge 0 = .ok (.iload_n 1, 1) := by decide +kernel
theorem dX8_forge_1 : decode cX8_forge 1 = .ok (.iconst 0, 1) := by decide +kernel
theorem dX8_forge_2 : decode cX8_forge 2 = .ok (.bipush 15, 2) := by decide +kernel
theorem dX8_forge_4 : decode cX8_forge 4 = .ok (.invokestatic 123, 3) := by decide +kernel
theorem dX8_forge_7 : decode cX8_forge 7 = .ok (.ifCond .eq 24, 3) := by decide +kernel
theorem dX8_forge_10 : decode cX8_forge 10 = .ok (.iload_n 2, 1) := by decide +kernel
theorem dX8_forge_11 : decode cX8_forge 11 = .ok (.iconst 0, 1) := by decide +kernel
theorem dX8_forge_12 : decode cX8_forge 12 = .ok (.sipush 2000, 3) := by decide +kernel
theorem dX8_forge_15 : decode cX8_forge 15 = .ok (.invokestatic 123, 3) := by decide +kernel
theorem dX8_forge_18 : decode cX8_forge 18 = .ok (.ifCond .eq 13, 3) := by decide +kernel
theorem dX8_forge_21 : decode cX8_forge 21 = .ok (.iload_n 3, 1) := by decide +kernel
theorem dX8_forge_22 : decode cX8_forge 22 = .ok (.iconst 1, 1) := by decide +kernel
theorem dX8_forge_23 : decode cX8_forge 23 = .ok (.bipush 50, 2) := by decide +kernel
theorem dX8_forge_25 : decode cX8_forge 25 = .ok (.invokestatic 123, 3) := by decide +kernel
theorem dX8_forge_28 : decode cX8_forge 28 = .ok (.ifCond .ne 6, 3) := by decide +kernel
theorem dX8_forge_31 : decode cX8_forge 31 = .ok (.bipush (-2), 2) := by decide +kernel
theorem dX8_forge_33 : decode cX8_forge 33 = .ok (.ireturn, 1) := by decide +kernel
theorem dX8_forge_34 : decode cX8_forge 34 = .ok (.aload_n 0, 1) := by decide +kernel
theorem dX8_forge_35 : decode cX8_forge 35 = .ok (.getfield 192, 3) := by decide +kernel
theorem dX8_forge_38 : decode cX8_forge 38 = .ok (.iconst 3, 1) := by decide +kernel
theorem dX8_forge_39 : decode cX8_forge 39 = .ok (.if_icmp .ne 6, 3) := by decide +kernel
theorem dX8_forge_42 : decode cX8_forge 42 = .ok (.bipush (-4), 2) := by decide +kernel
theorem dX8_forge_44 : decode cX8_forge 44 = .ok (.ireturn, 1) := by decide +kernel
theorem dX8_forge_45 : decode cX8_forge 45 = .ok (.aload_n 0, 1) := by decide +kernel
theorem dX8_forge_46 : decode cX8_forge 46 = .ok (.getfield 90, 3) := by decide +kernel
theorem dX8_forge_49 : decode cX8_forge 49 = .ok (.aload_n 0, 1) := by decide +kernel
theorem dX8_forge_50 : decode cX8_forge 50 = .ok (.getfield 192, 3) := by decide +kernel
theorem dX8_forge_53 : decode cX8_forge 53 = .ok (.iload_n 1, 1) := by decide +kernel
theorem dX8_forge_54 : decode cX8_forge 54 = .ok (.iastore, 1) := by decide +kernel
theorem dX8_forge_55 : decode cX8_forge 55 = .ok (.aload_n 0, 1) := by decide +kernel
theorem dX8_forge_56 : decode cX8_forge 56 = .ok (.getfield 93, 3) := by decide +kernel
theorem dX8_forge_59 : decode cX8_forge 59 = .ok (.aload_n 0, 1) := by decide +kernel
theorem dX8_forge_60 : decode cX8_forge 60 = .ok (.getfield 192, 3) := by decide +kernel
theorem dX8_forge_63 : decode cX8_forge 63 = .ok (.iload_n 2, 1) := by decide +kernel
theorem dX8_forge_64 : decode cX8_forge 64 = .ok (.iastore, 1) := by decide +kernel
theorem dX8_forge_65 : decode cX8_forge 65 = .ok (.aload_n 0, 1) := by decide +kernel
theorem dX8_forge_66 : decode cX8_forge 66 = .ok (.getfield 96, 3) := by decide +kernel
theorem dX8_forge_69 : decode cX8_forge 69 = .ok (.aload_n 0, 1) := by decide +kernel
theorem dX8_forge_70 : decode cX8_forge 70 = .ok (.getfield 192, 3) := by decide +kernel
theorem dX8_forge_73 : decode cX8_forge 73 = .ok (.iload_n 3, 1) := by decide +kernel
theorem dX8_forge_74 : decode cX8_forge 74 = .ok (.iastore, 1) := by decide +kernel
theorem dX8_forge_75 : decode cX8_forge 75 = .ok (.aload_n 0, 1) := by decide +kernel
theorem dX8_forge_76 : decode cX8_forge 76 = .ok (.dup, 1) := by decide +kernel
theorem dX8_forge_77 : decode cX8_forge 77 = .ok (.getfield 192, 3) := by decide +kernel
theorem dX8_forge_80 : decode cX8_forge 80 = .ok (.iconst 1, 1) := by decide +kernel
theorem dX8_forge_81 : decode cX8_forge 81 = .ok (.iadd, 1) := by decide +kernel
theorem dX8_forge_82 : decode cX8_forge 82 = .ok (.putfield 192, 3) := by decide +kernel
theorem dX8_forge_85 : decode cX8_forge 85 = .ok (.aload_n 0, 1) := by decide +kernel
theorem dX8_forge_86 : decode cX8_forge 86 = .ok (.getfield 192, 3) := by decide +kernel
theorem dX8_forge_89 : decode cX8_forge 89 = .ok (.iconst 1, 1) := by decide +kernel
theorem dX8_forge_90 : decode cX8_forge 90 = .ok (.isub, 1) := by decide +kernel
theorem dX8_forge_91 : decode cX8_forge 91 = .ok (.ireturn, 1) := by decide +kernel
theorem dX8_digit_0 : decode cX8_digit 0 = .ok (.iload_n 1, 1) := by decide +kernel
theorem dX8_digit_1 : decode cX8_digit 1 = .ok (.istore_n 3, 1) := by decide +kernel
theorem dX8_digit_2 : decode cX8_digit 2 = .ok (.aload_n 0, 1) := by decide +kernel
theorem dX8_digit_3 : decode cX8_digit 3 = .ok (.getfield 195, 3) := by decide +kernel
theorem dX8_digit_6 : decode cX8_digit 6 = .ok (.iconst 1, 1) := by decide +kernel
theorem dX8_digit_7 : decode cX8_digit 7 = .ok (.isub, 1) := by decide +kernel
theorem dX8_digit_8 : decode cX8_digit 8 = .ok (.istore 4, 2) := by decide +kernel
theorem dX8_digit_10 : decode cX8_digit 10 = .ok (.iload 4, 2) := by decide +kernel
theorem dX8_digit_12 : decode cX8_digit 12 = .ok (.iload_n 2, 1) := by decide +kernel
theorem dX8_digit_13 : decode cX8_digit 13 = .ok (.if_icmp .le 18, 3) := by decide +kernel
theorem dX8_digit_16 : decode cX8_digit 16 = .ok (.iload_n 3, 1) := by decide +kernel
theorem dX8_digit_17 : decode cX8_digit 17 = .ok (.aload_n 0, 1) := by decide +kernel
theorem dX8_digit_18 : decode cX8_digit 18 = .ok (.getfield 192, 3) := by decide +kernel
theorem dX8_digit_21 : decode cX8_digit 21 = .ok (.iconst 1, 1) := by decide +kernel
theorem dX8_digit_22 : decode cX8_digit 22 = .ok (.iadd, 1) := by decide +kernel
theorem dX8_digit_23 : decode cX8_digit 23 = .ok (.idiv, 1) := by decide +kernel
theorem dX8_digit_24 : decode cX8_digit 24 = .ok (.istore_n 3, 1) := by decide +kernel
theorem dX8_digit_25 : decode cX8_digit 25 = .ok (.iinc 4 (-1), 3) := by decide +kernel
theorem dX8_digit_28 : decode cX8_digit 28 = .ok (.goto (-18), 3) := by decide +kernel
theorem dX8_digit_31 : decode cX8_digit 31 = .ok (.iload_n 3, 1) := by decide +kernel
theorem dX8_digit_32 : decode cX8_digit 32 = .ok (.aload_n 0, 1) := by decide +kernel
theorem dX8_digit_33 : decode cX8_digit 33 = .ok (.getfield 192, 3) := by decide +kernel
theorem dX8_digit_36 : decode cX8_digit 36 = .ok (.iconst 1, 1) := by decide +kernel
theorem dX8_digit_37 : decode cX8_digit 37 = .ok (.iadd, 1) := by decide +kernel
theorem dX8_digit_38 : decode cX8_digit 38 = .ok (.irem, 1) := by decide +kernel
theorem dX8_digit_39 : decode cX8_digit 39 = .ok (.ireturn, 1) := by decide +kernel
theorem dX8_payOf_0 : decode cX8_payOf 0 = .ok (.iconst 0, 1) := by decide +kernel
theorem dX8_payOf_1 : decode cX8_payOf 1 = .ok (.istore_n 2, 1) := by decide +kernel
theorem dX8_payOf_2 : decode cX8_payOf 2 = .ok (.iload_n 2, 1) := by decide +kernel
theorem dX8_payOf_3 : decode cX8_payOf 3 = .ok (.aload_n 0, 1) := by decide +kernel
theorem dX8_payOf_4 : decode cX8_payOf 4 = .ok (.getfield 192, 3) := by decide +kernel
theorem dX8_payOf_7 : decode cX8_payOf 7 = .ok (.if_icmp .ge 21, 3) := by decide +kernel
theorem dX8_payOf_10 : decode cX8_payOf 10 = .ok (.aload_n 0, 1) := by decide +kernel
theorem dX8_payOf_11 : decode cX8_payOf 11 = .ok (.getfield 120, 3) := by decide +kernel
theorem dX8_payOf_14 : decode cX8_payOf 14 = .ok (.iload_n 2, 1) := by decide +kernel
theorem dX8_payOf_15 : decode cX8_payOf 15 = .ok (.aload_n 0, 1) := by decide +kernel
theorem dX8_payOf_16 : decode cX8_payOf 16 = .ok (.getfield 93, 3) := by decide +kernel
theorem dX8_payOf_19 : decode cX8_payOf 19 = .ok (.iload_n 2, 1) := by decide +kernel
theorem dX8_payOf_20 : decode cX8_payOf 20 = .ok (.iaload, 1) := by decide +kernel
theorem dX8_payOf_21 : decode cX8_payOf 21 = .ok (.iastore, 1) := by decide +kernel
theorem dX8_payOf_22 : decode cX8_payOf 22 = .ok (.iinc 2 1, 3) := by decide +kernel
theorem dX8_payOf_25 : decode cX8_payOf 25 = .ok (.goto (-23), 3) := by decide +kernel
theorem dX8_payOf_28 : decode cX8_payOf 28 = .ok (.iconst 0, 1) := by decide +kernel
theorem dX8_payOf_29 : decode cX8_payOf 29 = .ok (.istore_n 2, 1) := by decide +kernel
theorem dX8_payOf_30 : decode cX8_payOf 30 = .ok (.iconst 0, 1) := by decide +kernel
theorem dX8_payOf_31 : decode cX8_payOf 31 = .ok (.istore_n 3, 1) := by decide +kernel
theorem dX8_payOf_32 : decode cX8_payOf 32 = .ok (.iload_n 3, 1) := by decide +kernel
theorem dX8_payOf_33 : decode cX8_payOf 33 = .ok (.aload_n 0, 1) := by decide +kernel
theorem dX8_payOf_34 : decode cX8_payOf 34 = .ok (.getfield 195, 3) := by decide +kernel
theorem dX8_payOf_37 : decode cX8_payOf 37 = .ok (.if_icmp .ge 108, 3) := by decide +kernel
theorem dX8_payOf_40 : decode cX8_payOf 40 = .ok (.aload_n 0, 1) := by decide +kernel
theorem dX8_payOf_41 : decode cX8_payOf 41 = .ok (.iload_n 1, 1) := by decide +kernel
theorem dX8_payOf_42 : decode cX8_payOf 42 = .ok (.iload_n 3, 1) := by decide +kernel
theorem dX8_payOf_43 : decode cX8_payOf 43 = .ok (.invokevirtual 198, 3) := by decide +kernel
theorem dX8_payOf_46 : decode cX8_payOf 46 = .ok (.istore 4, 2) := by decide +kernel
theorem dX8_payOf_48 : decode cX8_payOf 48 = .ok (.iload 4, 2) := by decide +kernel
theorem dX8_payOf_50 : decode cX8_payOf 50 = .ok (.aload_n 0, 1) := by decide +kernel
theorem dX8_payOf_51 : decode cX8_payOf 51 = .ok (.getfield 192, 3) := by decide +kernel
theorem dX8_payOf_54 : decode cX8_payOf 54 = .ok (.if_icmp .ge 85, 3) := by decide +kernel
theorem dX8_payOf_57 : decode cX8_payOf 57 = .ok (.aload_n 0, 1) := by decide +kernel
theorem dX8_payOf_58 : decode cX8_payOf 58 = .ok (.getfield 117, 3) := by decide +kernel
theorem dX8_payOf_61 : decode cX8_payOf 61 = .ok (.iload_n 3, 1) := by decide +kernel
theorem dX8_payOf_62 : decode cX8_payOf 62 = .ok (.iaload, 1) := by decide +kernel
theorem dX8_payOf_63 : decode cX8_payOf 63 = .ok (.istore 5, 2) := by decide +kernel
theorem dX8_payOf_65 : decode cX8_payOf 65 = .ok (.aload_n 0, 1) := by decide +kernel
theorem dX8_payOf_66 : decode cX8_payOf 66 = .ok (.getfield 90, 3) := by decide +kernel
theorem dX8_payOf_69 : decode cX8_payOf 69 = .ok (.iload 4, 2) := by decide +kernel
theorem dX8_payOf_71 : decode cX8_payOf 71 = .ok (.iaload, 1) := by decide +kernel
theorem dX8_payOf_72 : decode cX8_payOf 72 = .ok (.aload_n 0, 1) := by decide +kernel
theorem dX8_payOf_73 : decode cX8_payOf 73 = .ok (.getfield 56, 3) := by decide +kernel
theorem dX8_payOf_76 : decode cX8_payOf 76 = .ok (.iload 5, 2) := by decide +kernel
theorem dX8_payOf_78 : decode cX8_payOf 78 = .ok (.iaload, 1) := by decide +kernel
theorem dX8_payOf_79 : decode cX8_payOf 79 = .ok (.ishr, 1) := by decide +kernel
theorem dX8_payOf_80 : decode cX8_payOf 80 = .ok (.iconst 1, 1) := by decide +kernel
theorem dX8_payOf_81 : decode cX8_payOf 81 = .ok (.iand, 1) := by decide +kernel
theorem dX8_payOf_82 : decode cX8_payOf 82 = .ok (.ifCond .eq 20, 3) := by decide +kernel
theorem dX8_payOf_85 : decode cX8_payOf 85 = .ok (.aload_n 0, 1) := by decide +kernel
theorem dX8_payOf_86 : decode cX8_payOf 86 = .ok (.getfield 120, 3) := by decide +kernel
theorem dX8_payOf_89 : decode cX8_payOf 89 = .ok (.iload 4, 2) := by decide +kernel
theorem dX8_payOf_91 : decode cX8_payOf 91 = .ok (.iaload, 1) := by decide +kernel
theorem dX8_payOf_92 : decode cX8_payOf 92 = .ok (.aload_n 0, 1) := by decide +kernel
theorem dX8_payOf_93 : decode cX8_payOf 93 = .ok (.getfield 53, 3) := by decide +kernel
theorem dX8_payOf_96 : decode cX8_payOf 96 = .ok (.iload 5, 2) := by decide +kernel
theorem dX8_payOf_98 : decode cX8_payOf 98 = .ok (.iaload, 1) := by decide +kernel
