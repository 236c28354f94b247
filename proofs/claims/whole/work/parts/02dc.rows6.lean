theorem dX6_next_272 : decode cX6_next 272 = .ok (.imul, 1) := by decide +kernel
theorem dX6_next_273 : decode cX6_next 273 = .ok (.aload_n 0, 1) := by decide +kernel
theorem dX6_next_274 : decode cX6_next 274 = .ok (.getfield 28, 3) := by decide +kernel
theorem dX6_next_277 : decode cX6_next 277 = .ok (.aload_n 0, 1) := by decide +kernel
theorem dX6_next_278 : decode cX6_next 278 = .ok (.getfield 119, 3) := by decide +kernel
theorem dX6_next_281 : decode cX6_next 281 = .ok (.iaload, 1) := by decide +kernel
theorem dX6_next_282 : decode cX6_next 282 = .ok (.iadd, 1) := by decide +kernel
theorem dX6_next_283 : decode cX6_next 283 = .ok (.bipush 48, 2) := by decide +kernel
theorem dX6_next_285 : decode cX6_next 285 = .ok (.isub, 1) := by decide +kernel
theorem dX6_next_286 : decode cX6_next 286 = .ok (.goto 4, 3) := by decide +kernel
theorem dX6_next_289 : decode cX6_next 289 = .ok (.iconst 0, 1) := by decide +kernel
theorem dX6_next_290 : decode cX6_next 290 = .ok (.putfield 128, 3) := by decide +kernel
theorem dX6_next_293 : decode cX6_next 293 = .ok (.iinc 2 1, 3) := by decide +kernel
theorem dX6_next_296 : decode cX6_next 296 = .ok (.aload_n 0, 1) := by decide +kernel
theorem dX6_next_297 : decode cX6_next 297 = .ok (.dup, 1) := by decide +kernel
theorem dX6_next_298 : decode cX6_next 298 = .ok (.getfield 119, 3) := by decide +kernel
theorem dX6_next_301 : decode cX6_next 301 = .ok (.iconst 1, 1) := by decide +kernel
theorem dX6_next_302 : decode cX6_next 302 = .ok (.iadd, 1) := by decide +kernel
theorem dX6_next_303 : decode cX6_next 303 = .ok (.putfield 119, 3) := by decide +kernel
theorem dX6_next_306 : decode cX6_next 306 = .ok (.goto (-76), 3) := by decide +kernel
theorem dX6_next_309 : decode cX6_next 309 = .ok (.aload_n 0, 1) := by decide +kernel
theorem dX6_next_310 : decode cX6_next 310 = .ok (.iload_n 2, 1) := by decide +kernel
theorem dX6_next_311 : decode cX6_next 311 = .ok (.iconst 4, 1) := by decide +kernel
theorem dX6_next_312 : decode cX6_next 312 = .ok (.if_icmp .le 7, 3) := by decide +kernel
theorem dX6_next_315 : decode cX6_next 315 = .ok (.iconst (-1), 1) := by decide +kernel
theorem dX6_next_316 : decode cX6_next 316 = .ok (.goto 4, 3) := by decide +kernel
theorem dX6_next_319 : decode cX6_next 319 = .ok (.iconst 1, 1) := by decide +kernel
theorem dX6_next_320 : decode cX6_next 320 = .ok (.putfield 125, 3) := by decide +kernel
theorem dX6_next_323 : decode cX6_next 323 = .ok (.goto 80, 3) := by decide +kernel
theorem dX6_next_326 : decode cX6_next 326 = .ok (.iload_n 1, 1) := by decide +kernel
theorem dX6_next_327 : decode cX6_next 327 = .ok (.bipush 40, 2) := by decide +kernel
theorem dX6_next_329 : decode cX6_next 329 = .ok (.if_icmp .eq 45, 3) := by decide +kernel
theorem dX6_next_332 : decode cX6_next 332 = .ok (.iload_n 1, 1) := by decide +kernel
theorem dX6_next_333 : decode cX6_next 333 = .ok (.bipush 41, 2) := by decide +kernel
theorem dX6_next_335 : decode cX6_next 335 = .ok (.if_icmp .eq 39, 3) := by decide +kernel
theorem dX6_next_338 : decode cX6_next 338 = .ok (.iload_n 1, 1) := by decide +kernel
theorem dX6_next_339 : decode cX6_next 339 = .ok (.bipush 59, 2) := by decide +kernel
theorem dX6_next_341 : decode cX6_next 341 = .ok (.if_icmp .eq 33, 3) := by decide +kernel
theorem dX6_next_344 : decode cX6_next 344 = .ok (.iload_n 1, 1) := by decide +kernel
theorem dX6_next_345 : decode cX6_next 345 = .ok (.bipush 43, 2) := by decide +kernel
theorem dX6_next_347 : decode cX6_next 347 = .ok (.if_icmp .eq 27, 3) := by decide +kernel
theorem dX6_next_350 : decode cX6_next 350 = .ok (.iload_n 1, 1) := by decide +kernel
theorem dX6_next_351 : decode cX6_next 351 = .ok (.bipush 45, 2) := by decide +kernel
theorem dX6_next_353 : decode cX6_next 353 = .ok (.if_icmp .eq 21, 3) := by decide +kernel
theorem dX6_next_356 : decode cX6_next 356 = .ok (.iload_n 1, 1) := by decide +kernel
theorem dX6_next_357 : decode cX6_next 357 = .ok (.bipush 42, 2) := by decide +kernel
theorem dX6_next_359 : decode cX6_next 359 = .ok (.if_icmp .eq 15, 3) := by decide +kernel
theorem dX6_next_362 : decode cX6_next 362 = .ok (.iload_n 1, 1) := by decide +kernel
theorem dX6_next_363 : decode cX6_next 363 = .ok (.bipush 60, 2) := by decide +kernel
theorem dX6_next_365 : decode cX6_next 365 = .ok (.if_icmp .eq 9, 3) := by decide +kernel
theorem dX6_next_368 : decode cX6_next 368 = .ok (.iload_n 1, 1) := by decide +kernel
theorem dX6_next_369 : decode cX6_next 369 = .ok (.bipush 61, 2) := by decide +kernel
theorem dX6_next_371 : decode cX6_next 371 = .ok (.if_icmp .ne 7, 3) := by decide +kernel
theorem dX6_next_374 : decode cX6_next 374 = .ok (.iconst 1, 1) := by decide +kernel
theorem dX6_next_375 : decode cX6_next 375 = .ok (.goto 4, 3) := by decide +kernel
theorem dX6_next_378 : decode cX6_next 378 = .ok (.iconst 0, 1) := by decide +kernel
theorem dX6_next_379 : decode cX6_next 379 = .ok (.istore_n 2, 1) := by decide +kernel
theorem dX6_next_380 : decode cX6_next 380 = .ok (.aload_n 0, 1) := by decide +kernel
theorem dX6_next_381 : decode cX6_next 381 = .ok (.iload_n 2, 1) := by decide +kernel
theorem dX6_next_382 : decode cX6_next 382 = .ok (.ifCond .eq 7, 3) := by decide +kernel
theorem dX6_next_385 : decode cX6_next 385 = .ok (.iload_n 1, 1) := by decide +kernel
theorem dX6_next_386 : decode cX6_next 386 = .ok (.goto 4, 3) := by decide +kernel
theorem dX6_next_389 : decode cX6_next 389 = .ok (.iconst (-1), 1) := by decide +kernel
theorem dX6_next_390 : decode cX6_next 390 = .ok (.putfield 125, 3) := by decide +kernel
theorem dX6_next_393 : decode cX6_next 393 = .ok (.aload_n 0, 1) := by decide +kernel
theorem dX6_next_394 : decode cX6_next 394 = .ok (.dup, 1) := by decide +kernel
theorem dX6_next_395 : decode cX6_next 395 = .ok (.getfield 119, 3) := by decide +kernel
theorem dX6_next_398 : decode cX6_next 398 = .ok (.iconst 1, 1) := by decide +kernel
theorem dX6_next_399 : decode cX6_next 399 = .ok (.iadd, 1) := by decide +kernel
theorem dX6_next_400 : decode cX6_next 400 = .ok (.putfield 119, 3) := by decide +kernel
theorem dX6_next_403 : decode cX6_next 403 = .ok (.return_, 1) := by decide +kernel
theorem dX6_rank_0 : decode cX6_rank 0 = .ok (.iload_n 0, 1) := by decide +kernel
theorem dX6_rank_1 : decode cX6_rank 1 = .ok (.ifCond .ne 7, 3) := by decide +kernel
theorem dX6_rank_4 : decode cX6_rank 4 = .ok (.iconst 0, 1) := by decide +kernel
theorem dX6_rank_5 : decode cX6_rank 5 = .ok (.goto 66, 3) := by decide +kernel
theorem dX6_rank_8 : decode cX6_rank 8 = .ok (.iload_n 0, 1) := by decide +kernel
theorem dX6_rank_9 : decode cX6_rank 9 = .ok (.bipush 11, 2) := by decide +kernel
theorem dX6_rank_11 : decode cX6_rank 11 = .ok (.if_icmp .ne 7, 3) := by decide +kernel
theorem dX6_rank_14 : decode cX6_rank 14 = .ok (.iconst 1, 1) := by decide +kernel
theorem dX6_rank_15 : decode cX6_rank 15 = .ok (.goto 56, 3) := by decide +kernel
theorem dX6_rank_18 : decode cX6_rank 18 = .ok (.iload_n 0, 1) := by decide +kernel
theorem dX6_rank_19 : decode cX6_rank 19 = .ok (.bipush 12, 2) := by decide +kernel
theorem dX6_rank_21 : decode cX6_rank 21 = .ok (.if_icmp .ne 7, 3) := by decide +kernel
theorem dX6_rank_24 : decode cX6_rank 24 = .ok (.iconst 2, 1) := by decide +kernel
theorem dX6_rank_25 : decode cX6_rank 25 = .ok (.goto 46, 3) := by decide +kernel
theorem dX6_rank_28 : decode cX6_rank 28 = .ok (.iload_n 0, 1) := by decide +kernel
theorem dX6_rank_29 : decode cX6_rank 29 = .ok (.bipush 13, 2) := by decide +kernel
theorem dX6_rank_31 : decode cX6_rank 31 = .ok (.if_icmp .ne 7, 3) := by decide +kernel
theorem dX6_rank_34 : decode cX6_rank 34 = .ok (.iconst 3, 1) := by decide +kernel
theorem dX6_rank_35 : decode cX6_rank 35 = .ok (.goto 36, 3) := by decide +kernel
theorem dX6_rank_38 : decode cX6_rank 38 = .ok (.iload_n 0, 1) := by decide +kernel
theorem dX6_rank_39 : decode cX6_rank 39 = .ok (.bipush 15, 2) := by decide +kernel
theorem dX6_rank_41 : decode cX6_rank 41 = .ok (.if_icmp .gt 7, 3) := by decide +kernel
theorem dX6_rank_44 : decode cX6_rank 44 = .ok (.iconst 4, 1) := by decide +kernel
theorem dX6_rank_45 : decode cX6_rank 45 = .ok (.goto 26, 3) := by decide +kernel
theorem dX6_rank_48 : decode cX6_rank 48 = .ok (.iload_n 0, 1) := by decide +kernel
theorem dX6_rank_49 : decode cX6_rank 49 = .ok (.bipush 17, 2) := by decide +kernel
theorem dX6_rank_51 : decode cX6_rank 51 = .ok (.if_icmp .gt 7, 3) := by decide +kernel
theorem dX6_rank_54 : decode cX6_rank 54 = .ok (.iconst 5, 1) := by decide +kernel
theorem dX6_rank_55 : decode cX6_rank 55 = .ok (.goto 16, 3) := by decide +kernel
theorem dX6_rank_58 : decode cX6_rank 58 = .ok (.iload_n 0, 1) := by decide +kernel
theorem dX6_rank_59 : decode cX6_rank 59 = .ok (.bipush 18, 2) := by decide +kernel
theorem dX6_rank_61 : decode cX6_rank 61 = .ok (.if_icmp .ne 8, 3) := by decide +kernel
theorem dX6_rank_64 : decode cX6_rank 64 = .ok (.bipush 6, 2) := by decide +kernel
theorem dX6_rank_66 : decode cX6_rank 66 = .ok (.goto 5, 3) := by decide +kernel
theorem dX6_rank_69 : decode cX6_rank 69 = .ok (.bipush 7, 2) := by decide +kernel
theorem dX6_rank_71 : decode cX6_rank 71 = .ok (.ireturn, 1) := by decide +kernel
theorem dX6_puts_0 : decode cX6_puts 0 = .ok (.aload_n 0, 1) := by decide +kernel
theorem dX6_puts_1 : decode cX6_puts 1 = .ok (.getfield 31, 3) := by decide +kernel
theorem dX6_puts_4 : decode cX6_puts 4 = .ok (.sipush 200, 3) := by decide +kernel
theorem dX6_puts_7 : decode cX6_puts 7 = .ok (.aload_n 0, 1) := by decide +kernel
theorem dX6_puts_8 : decode cX6_puts 8 = .ok (.getfield 99, 3) := by decide +kernel
theorem dX6_puts_11 : decode cX6_puts 11 = .ok (.imul, 1) := by decide +kernel
theorem dX6_puts_12 : decode cX6_puts 12 = .ok (.aload_n 0, 1) := by decide +kernel
theorem dX6_puts_13 : decode cX6_puts 13 = .ok (.getfield 135, 3) := by decide +kernel
theorem dX6_puts_16 : decode cX6_puts 16 = .ok (.iadd, 1) := by decide +kernel
theorem dX6_puts_17 : decode cX6_puts 17 = .ok (.iload_n 1, 1) := by decide +kernel
theorem dX6_puts_18 : decode cX6_puts 18 = .ok (.iastore, 1) := by decide +kernel
theorem dX6_puts_19 : decode cX6_puts 19 = .ok (.aload_n 0, 1) := by decide +kernel
theorem dX6_puts_20 : decode cX6_puts 20 = .ok (.dup, 1) := by decide +kernel
theorem dX6_puts_21 : decode cX6_puts 21 = .ok (.getfield 135, 3) := by decide +kernel
theorem dX6_puts_24 : decode cX6_puts 24 = .ok (.iconst 1, 1) := by decide +kernel
theorem dX6_puts_25 : decode cX6_puts 25 = .ok (.iadd, 1) := by decide +kernel
theorem dX6_puts_26 : decode cX6_puts 26 = .ok (.putfield 135, 3) := by decide +kernel
theorem dX6_puts_29 : decode cX6_puts 29 = .ok (.return_, 1) := by decide +kernel
set_option maxRecDepth 20000 in
theorem ggX6_unwinds_X6_rank : GoodIn wsX6_unwinds wsX6_rank := goodIn_r _ [7] rfl (by decide +kernel)
set_option maxRecDepth 20000 in
theorem gX6_unwinds_X6_rank : GoodIn wsX6_unwinds (va_wsS RX6 141 yX6_rank wsX6_rank) := goodIn_app (goodIn_of _ (by decide +kernel)) ggX6_unwinds_X6_rank
set_option maxRecDepth 20000 in
theorem ggX6_unwinds_X6_puts : GoodIn wsX6_unwinds wsX6_puts := goodIn_r _ [11, 12, 13, 14, 15, 16, 17, 18, 19, 20, 21, 22, 23, 24, 25, 26, 27, 28, 29, 30, 31, 32, 33, 34, 35, 36, 37, 38, 39, 40, 41, 42, 43, 44, 45, 46, 47, 48, 49, 50, 51, 52] rfl (by decide +kernel)
set_option maxRecDepth 20000 in
theorem gX6_unwinds_X6_puts : GoodIn wsX6_unwinds (wsV RX6 147 RX6 yX6_puts wsX6_puts) := goodIn_app (goodIn_of _ (by decide +kernel)) ggX6_unwinds_X6_puts
theorem dX6_unwinds_0 : decode cX6_unwinds 0 = .ok (.aload_n 0, 1) := by decide +kernel
theorem dX6_unwinds_1 : decode cX6_unwinds 1 = .ok (.getfield 138, 3) := by decide +kernel
theorem dX6_unwinds_4 : decode cX6_unwinds 4 = .ok (.ifCond .le 75, 3) := by decide +kernel
theorem dX6_unwinds_7 : decode cX6_unwinds 7 = .ok (.aload_n 0, 1) := by decide +kernel
theorem dX6_unwinds_8 : decode cX6_unwinds 8 = .ok (.getfield 58, 3) := by decide +kernel
theorem dX6_unwinds_11 : decode cX6_unwinds 11 = .ok (.aload_n 0, 1) := by decide +kernel
theorem dX6_unwinds_12 : decode cX6_unwinds 12 = .ok (.getfield 138, 3) := by decide +kernel
theorem dX6_unwinds_15 : decode cX6_unwinds 15 = .ok (.iconst 1, 1) := by decide +kernel
theorem dX6_unwinds_16 : decode cX6_unwinds 16 = .ok (.isub, 1) := by decide +kernel
theorem dX6_unwinds_17 : decode cX6_unwinds 17 = .ok (.iaload, 1) := by decide +kernel
theorem dX6_unwinds_18 : decode cX6_unwinds 18 = .ok (.invokestatic 141, 3) := by decide +kernel
theorem dX6_unwinds_21 : decode cX6_unwinds 21 = .ok (.iload_n 1, 1) := by decide +kernel
theorem dX6_unwinds_22 : decode cX6_unwinds 22 = .ok (.if_icmp .lt 57, 3) := by decide +kernel
theorem dX6_unwinds_25 : decode cX6_unwinds 25 = .ok (.aload_n 0, 1) := by decide +kernel
theorem dX6_unwinds_26 : decode cX6_unwinds 26 = .ok (.dup, 1) := by decide +kernel
theorem dX6_unwinds_27 : decode cX6_unwinds 27 = .ok (.getfield 138, 3) := by decide +kernel
theorem dX6_unwinds_30 : decode cX6_unwinds 30 = .ok (.iconst 1, 1) := by decide +kernel
theorem dX6_unwinds_31 : decode cX6_unwinds 31 = .ok (.isub, 1) := by decide +kernel
theorem dX6_unwinds_32 : decode cX6_unwinds 32 = .ok (.putfield 138, 3) := by decide +kernel
theorem dX6_unwinds_35 : decode cX6_unwinds 35 = .ok (.aload_n 0, 1) := by decide +kernel
theorem dX6_unwinds_36 : decode cX6_unwinds 36 = .ok (.getfield 58, 3) := by decide +kernel
theorem dX6_unwinds_39 : decode cX6_unwinds 39 = .ok (.aload_n 0, 1) := by decide +kernel
theorem dX6_unwinds_40 : decode cX6_unwinds 40 = .ok (.getfield 138, 3) := by decide +kernel
theorem dX6_unwinds_43 : decode cX6_unwinds 43 = .ok (.iaload, 1) := by decide +kernel
theorem dX6_unwinds_44 : decode cX6_unwinds 44 = .ok (.istore_n 2, 1) := by decide +kernel
theorem dX6_unwinds_45 : decode cX6_unwinds 45 = .ok (.aload_n 0, 1) := by decide +kernel
theorem dX6_unwinds_46 : decode cX6_unwinds 46 = .ok (.dup, 1) := by decide +kernel
theorem dX6_unwinds_47 : decode cX6_unwinds 47 = .ok (.getfield 144, 3) := by decide +kernel
theorem dX6_unwinds_50 : decode cX6_unwinds 50 = .ok (.iload_n 2, 1) := by decide +kernel
theorem dX6_unwinds_51 : decode cX6_unwinds 51 = .ok (.bipush 13, 2) := by decide +kernel
theorem dX6_unwinds_53 : decode cX6_unwinds 53 = .ok (.if_icmp .eq 9, 3) := by decide +kernel
theorem dX6_unwinds_56 : decode cX6_unwinds 56 = .ok (.iload_n 2, 1) := by decide +kernel
theorem dX6_unwinds_57 : decode cX6_unwinds 57 = .ok (.bipush 19, 2) := by decide +kernel
theorem dX6_unwinds_59 : decode cX6_unwinds 59 = .ok (.if_icmp .ne 7, 3) := by decide +kernel
theorem dX6_unwinds_62 : decode cX6_unwinds 62 = .ok (.iconst 1, 1) := by decide +kernel
theorem dX6_unwinds_63 : decode cX6_unwinds 63 = .ok (.goto 4, 3) := by decide +kernel
theorem dX6_unwinds_66 : decode cX6_unwinds 66 = .ok (.iconst 0, 1) := by decide +kernel
theorem dX6_unwinds_67 : decode cX6_unwinds 67 = .ok (.isub, 1) := by decide +kernel
theorem dX6_unwinds_68 : decode cX6_unwinds 68 = .ok (.putfield 144, 3) := by decide +kernel
theorem dX6_unwinds_71 : decode cX6_unwinds 71 = .ok (.aload_n 0, 1) := by decide +kernel
theorem dX6_unwinds_72 : decode cX6_unwinds 72 = .ok (.iload_n 2, 1) := by decide +kernel
theorem dX6_unwinds_73 : decode cX6_unwinds 73 = .ok (.invokevirtual 147, 3) := by decide +kernel
theorem dX6_unwinds_76 : decode cX6_unwinds 76 = .ok (.goto (-76), 3) := by decide +kernel
theorem dX6_unwinds_79 : decode cX6_unwinds 79 = .ok (.return_, 1) := by decide +kernel
theorem dX6_holds_0 : decode cX6_holds 0 = .ok (.aload_n 0, 1) := by decide +kernel
theorem dX6_holds_1 : decode cX6_holds 1 = .ok (.getfield 58, 3) := by decide +kernel
theorem dX6_holds_4 : decode cX6_holds 4 = .ok (.aload_n 0, 1) := by decide +kernel
theorem dX6_holds_5 : decode cX6_holds 5 = .ok (.getfield 138, 3) := by decide +kernel
theorem dX6_holds_8 : decode cX6_holds 8 = .ok (.iload_n 1, 1) := by decide +kernel
theorem dX6_holds_9 : decode cX6_holds 9 = .ok (.iastore, 1) := by decide +kernel
theorem dX6_holds_10 : decode cX6_holds 10 = .ok (.aload_n 0, 1) := by decide +kernel
theorem dX6_holds_11 : decode cX6_holds 11 = .ok (.dup, 1) := by decide +kernel
theorem dX6_holds_12 : decode cX6_holds 12 = .ok (.getfield 138, 3) := by decide +kernel
theorem dX6_holds_15 : decode cX6_holds 15 = .ok (.iconst 1, 1) := by decide +kernel
theorem dX6_holds_16 : decode cX6_holds 16 = .ok (.iadd, 1) := by decide +kernel
theorem dX6_holds_17 : decode cX6_holds 17 = .ok (.putfield 138, 3) := by decide +kernel
theorem dX6_holds_20 : decode cX6_holds 20 = .ok (.return_, 1) := by decide +kernel
set_option maxRecDepth 20000 in
theorem ggX6_opensOne_X6_holds : GoodIn wsX6_opensOne wsX6_holds := goodIn_r _ [6, 7, 8, 9, 10, 11, 12, 13, 14, 15, 16, 17, 18, 19, 20, 21, 22, 23, 24, 25, 26, 27, 28, 29, 30, 31, 32, 33, 34, 35, 36, 37, 38, 39, 40, 41, 42, 43, 44, 45, 46] rfl (by decide +kernel)
set_option maxRecDepth 20000 in
theorem gX6_opensOne_X6_holds : GoodIn wsX6_opensOne (wsV RX6 151 RX6 yX6_holds wsX6_holds) := goodIn_app (goodIn_of _ (by decide +kernel)) ggX6_opensOne_X6_holds
theorem dX6_opensOne_0 : decode cX6_opensOne 0 = .ok (.aload_n 0, 1) := by decide +kernel
theorem dX6_opensOne_1 : decode cX6_opensOne 1 = .ok (.getfield 144, 3) := by decide +kernel
theorem dX6_opensOne_4 : decode cX6_opensOne 4 = .ok (.iconst 5, 1) := by decide +kernel
theorem dX6_opensOne_5 : decode cX6_opensOne 5 = .ok (.if_icmp .ne 5, 3) := by decide +kernel
theorem dX6_opensOne_8 : decode cX6_opensOne 8 = .ok (.iconst 0, 1) := by decide +kernel
theorem dX6_opensOne_9 : decode cX6_opensOne 9 = .ok (.ireturn, 1) := by decide +kernel
theorem dX6_opensOne_10 : decode cX6_opensOne 10 = .ok (.aload_n 0, 1) := by decide +kernel
theorem dX6_opensOne_11 : decode cX6_opensOne 11 = .ok (.dup, 1) := by decide +kernel
theorem dX6_opensOne_12 : decode cX6_opensOne 12 = .ok (.getfield 144, 3) := by decide +kernel
theorem dX6_opensOne_15 : decode cX6_opensOne 15 = .ok (.iconst 1, 1) := by decide +kernel
theorem dX6_opensOne_16 : decode cX6_opensOne 16 = .ok (.iadd, 1) := by decide +kernel
theorem dX6_opensOne_17 : decode cX6_opensOne 17 = .ok (.putfield 144, 3) := by decide +kernel
theorem dX6_opensOne_20 : decode cX6_opensOne 20 = .ok (.aload_n 0, 1) := by decide +kernel
theorem dX6_opensOne_21 : decode cX6_opensOne 21 = .ok (.iload_n 1, 1) := by decide +kernel
theorem dX6_opensOne_22 : decode cX6_opensOne 22 = .ok (.invokevirtual 151, 3) := by decide +kernel
theorem dX6_opensOne_25 : decode cX6_opensOne 25 = .ok (.iconst 1, 1) := by decide +kernel
theorem dX6_opensOne_26 : decode cX6_opensOne 26 = .ok (.ireturn, 1) := by decide +kernel
set_option maxRecDepth 20000 in
theorem ggX6_between_X6_rank : GoodIn wsX6_between wsX6_rank := goodIn_r _ [6] rfl (by decide +kernel)
set_option maxRecDepth 20000 in
theorem gX6_between_X6_rank : GoodIn wsX6_between (va_wsS RX6 141 yX6_rank wsX6_rank) := goodIn_app (goodIn_of _ (by decide +kernel)) ggX6_between_X6_rank
set_option maxRecDepth 20000 in
theorem ggX6_between_X6_unwinds : GoodIn wsX6_between wsX6_unwinds := goodIn_r _ [10, 1, 2, 11, 3, 4, 5, 6, 12, 13, 14, 15, 16, 17, 18, 23, 24, 25, 26, 27, 28, 29, 30, 31, 32, 33, 34, 35, 36, 37, 38, 39, 40, 41, 42, 43, 44, 45, 46, 47, 48, 49, 50, 51, 52, 53, 54, 55, 56, 57, 58, 59, 60] rfl (by decide +kernel)
set_option maxRecDepth 20000 in
theorem gX6_between_X6_unwinds : GoodIn wsX6_between (wsV RX6 154 RX6 yX6_unwinds wsX6_unwinds) := goodIn_app (goodIn_of _ (by decide +kernel)) ggX6_between_X6_unwinds
set_option maxRecDepth 20000 in
theorem ggX6_between_X6_holds : GoodIn wsX6_between wsX6_holds := goodIn_r _ [22, 2, 1, 23, 24, 25, 26, 27, 28, 29, 30, 31, 32, 33, 34, 35, 36, 37, 38, 39, 40, 41, 42, 43, 44, 45, 46, 47, 48, 49, 50, 51, 52, 53, 54, 55, 56, 57, 58, 59, 60] rfl (by decide +kernel)
set_option maxRecDepth 20000 in
theorem gX6_between_X6_holds : GoodIn wsX6_between (wsV RX6 151 RX6 yX6_holds wsX6_holds) := goodIn_app (goodIn_of _ (by decide +kernel)) ggX6_between_X6_holds
theorem dX6_between_0 : decode cX6_between 0 = .ok (.aload_n 0, 1) := by decide +kernel
theorem dX6_between_1 : decode cX6_between 1 = .ok (.iload_n 1, 1) := by decide +kernel
theorem dX6_between_2 : decode cX6_between 2 = .ok (.invokestatic 141, 3) := by decide +kernel
theorem dX6_between_5 : decode cX6_between 5 = .ok (.iconst 4, 1) := by decide +kernel
theorem dX6_between_6 : decode cX6_between 6 = .ok (.if_icmp .ne 7, 3) := by decide +kernel
theorem dX6_between_9 : decode cX6_between 9 = .ok (.iconst 5, 1) := by decide +kernel
theorem dX6_between_10 : decode cX6_between 10 = .ok (.goto 7, 3) := by decide +kernel
theorem dX6_between_13 : decode cX6_between 13 = .ok (.iload_n 1, 1) := by decide +kernel
theorem dX6_between_14 : decode cX6_between 14 = .ok (.invokestatic 141, 3) := by decide +kernel
theorem dX6_between_17 : decode cX6_between 17 = .ok (.invokevirtual 154, 3) := by decide +kernel
theorem dX6_between_20 : decode cX6_between 20 = .ok (.iload_n 1, 1) := by decide +kernel
theorem dX6_between_21 : decode cX6_between 21 = .ok (.invokestatic 141, 3) := by decide +kernel
theorem dX6_between_24 : decode cX6_between 24 = .ok (.iconst 4, 1) := by decide +kernel
theorem dX6_between_25 : decode cX6_between 25 = .ok (.if_icmp .ne 30, 3) := by decide +kernel
theorem dX6_between_28 : decode cX6_between 28 = .ok (.aload_n 0, 1) := by decide +kernel
theorem dX6_between_29 : decode cX6_between 29 = .ok (.getfield 138, 3) := by decide +kernel
theorem dX6_between_32 : decode cX6_between 32 = .ok (.ifCond .le 23, 3) := by decide +kernel
theorem dX6_between_35 : decode cX6_between 35 = .ok (.aload_n 0, 1) := by decide +kernel
theorem dX6_between_36 : decode cX6_between 36 = .ok (.getfield 58, 3) := by decide +kernel
theorem dX6_between_39 : decode cX6_between 39 = .ok (.aload_n 0, 1) := by decide +kernel
theorem dX6_between_40 : decode cX6_between 40 = .ok (.getfield 138, 3) := by decide +kernel
theorem dX6_between_43 : decode cX6_between 43 = .ok (.iconst 1, 1) := by decide +kernel
theorem dX6_between_44 : decode cX6_between 44 = .ok (.isub, 1) := by decide +kernel
theorem dX6_between_45 : decode cX6_between 45 = .ok (.iaload, 1) := by decide +kernel
theorem dX6_between_46 : decode cX6_between 46 = .ok (.invokestatic 141, 3) := by decide +kernel
theorem dX6_between_49 : decode cX6_between 49 = .ok (.iconst 4, 1) := by decide +kernel
theorem dX6_between_50 : decode cX6_between 50 = .ok (.if_icmp .ne 5, 3) := by decide +kernel
theorem dX6_between_53 : decode cX6_between 53 = .ok (.iconst 0, 1) := by decide +kernel
theorem dX6_between_54 : decode cX6_between 54 = .ok (.ireturn, 1) := by decide +kernel
theorem dX6_between_55 : decode cX6_between 55 = .ok (.aload_n 0, 1) := by decide +kernel
theorem dX6_between_56 : decode cX6_between 56 = .ok (.iload_n 1, 1) := by decide +kernel
theorem dX6_between_57 : decode cX6_between 57 = .ok (.invokevirtual 151, 3) := by decide +kernel
theorem dX6_between_60 : decode cX6_between 60 = .ok (.iconst 1, 1) := by decide +kernel
theorem dX6_between_61 : decode cX6_between 61 = .ok (.ireturn, 1) := by decide +kernel
theorem dX6_signOf_0 : decode cX6_signOf 0 = .ok (.aload_n 0, 1) := by decide +kernel
theorem dX6_signOf_1 : decode cX6_signOf 1 = .ok (.getfield 125, 3) := by decide +kernel
theorem dX6_signOf_4 : decode cX6_signOf 4 = .ok (.iconst 4, 1) := by decide +kernel
theorem dX6_signOf_5 : decode cX6_signOf 5 = .ok (.if_icmp .ne 8, 3) := by decide +kernel
theorem dX6_signOf_8 : decode cX6_signOf 8 = .ok (.bipush 11, 2) := by decide +kernel
theorem dX6_signOf_10 : decode cX6_signOf 10 = .ok (.goto 87, 3) := by decide +kernel
theorem dX6_signOf_13 : decode cX6_signOf 13 = .ok (.aload_n 0, 1) := by decide +kernel
theorem dX6_signOf_14 : decode cX6_signOf 14 = .ok (.getfield 125, 3) := by decide +kernel
theorem dX6_signOf_17 : decode cX6_signOf 17 = .ok (.iconst 5, 1) := by decide +kernel
theorem dX6_signOf_18 : decode cX6_signOf 18 = .ok (.if_icmp .ne 8, 3) := by decide +kernel
theorem dX6_signOf_21 : decode cX6_signOf 21 = .ok (.bipush 12, 2) := by decide +kernel
theorem dX6_signOf_23 : decode cX6_signOf 23 = .ok (.goto 74, 3) := by decide +kernel
theorem dX6_signOf_26 : decode cX6_signOf 26 = .ok (.aload_n 0, 1) := by decide +kernel
theorem dX6_signOf_27 : decode cX6_signOf 27 = .ok (.getfield 125, 3) := by decide +kernel
theorem dX6_signOf_30 : decode cX6_signOf 30 = .ok (.bipush 60, 2) := by decide +kernel
theorem dX6_signOf_32 : decode cX6_signOf 32 = .ok (.if_icmp .ne 8, 3) := by decide +kernel
theorem dX6_signOf_35 : decode cX6_signOf 35 = .ok (.bipush 14, 2) := by decide +kernel
theorem dX6_signOf_37 : decode cX6_signOf 37 = .ok (.goto 60, 3) := by decide +kernel
theorem dX6_signOf_40 : decode cX6_signOf 40 = .ok (.aload_n 0, 1) := by decide +kernel
theorem dX6_signOf_41 : decode cX6_signOf 41 = .ok (.getfield 125, 3) := by decide +kernel
theorem dX6_signOf_44 : decode cX6_signOf 44 = .ok (.bipush 61, 2) := by decide +kernel
theorem dX6_signOf_46 : decode cX6_signOf 46 = .ok (.if_icmp .ne 8, 3) := by decide +kernel
theorem dX6_signOf_49 : decode cX6_signOf 49 = .ok (.bipush 15, 2) := by decide +kernel
theorem dX6_signOf_51 : decode cX6_signOf 51 = .ok (.goto 46, 3) := by decide +kernel
theorem dX6_signOf_54 : decode cX6_signOf 54 = .ok (.aload_n 0, 1) := by decide +kernel
theorem dX6_signOf_55 : decode cX6_signOf 55 = .ok (.getfield 125, 3) := by decide +kernel
theorem dX6_signOf_58 : decode cX6_signOf 58 = .ok (.bipush 43, 2) := by decide +kernel
theorem dX6_signOf_60 : decode cX6_signOf 60 = .ok (.if_icmp .ne 8, 3) := by decide +kernel
theorem dX6_signOf_63 : decode cX6_signOf 63 = .ok (.bipush 16, 2) := by decide +kernel
theorem dX6_signOf_65 : decode cX6_signOf 65 = .ok (.goto 32, 3) := by decide +kernel
theorem dX6_signOf_68 : decode cX6_signOf 68 = .ok (.aload_n 0, 1) := by decide +kernel
theorem dX6_signOf_69 : decode cX6_signOf 69 = .ok (.getfield 125, 3) := by decide +kernel
theorem dX6_signOf_72 : decode cX6_signOf 72 = .ok (.bipush 45, 2) := by decide +kernel
theorem dX6_signOf_74 : decode cX6_signOf 74 = .ok (.if_icmp .ne 8, 3) := by decide +kernel
theorem dX6_signOf_77 : decode cX6_signOf 77 = .ok (.bipush 17, 2) := by decide +kernel
theorem dX6_signOf_79 : decode cX6_signOf 79 = .ok (.goto 18, 3) := by decide +kernel
theorem dX6_signOf_82 : decode cX6_signOf 82 = .ok (.aload_n 0, 1) := by decide +kernel
theorem dX6_signOf_83 : decode cX6_signOf 83 = .ok (.getfield 125, 3) := by decide +kernel
theorem dX6_signOf_86 : decode cX6_signOf 86 = .ok (.bipush 42, 2) := by decide +kernel
theorem dX6_signOf_88 : decode cX6_signOf 88 = .ok (.if_icmp .ne 8, 3) := by decide +kernel
theorem dX6_signOf_91 : decode cX6_signOf 91 = .ok (.bipush 18, 2) := by decide +kernel
theorem dX6_signOf_93 : decode cX6_signOf 93 = .ok (.goto 4, 3) := by decide +kernel
theorem dX6_signOf_96 : decode cX6_signOf 96 = .ok (.iconst (-1), 1) := by decide +kernel
theorem dX6_signOf_97 : decode cX6_signOf 97 = .ok (.ireturn, 1) := by decide +kernel
set_option maxRecDepth 20000 in
theorem ggX6_eRead_X6_next : GoodIn wsX6_eRead wsX6_next := goodIn_r _ [10, 11, 12, 13, 14, 3, 5, 15, 16, 9, 17, 18, 19, 20, 21, 22, 54, 55, 56, 57, 58, 59, 60, 61, 62, 63, 64, 65, 66, 67, 68, 69, 70, 71, 72, 73, 74, 75, 76, 77, 78, 79, 80, 81, 82, 83, 84, 85, 86, 87, 88, 89, 90, 91] rfl (by decide +kernel)
set_option maxRecDepth 20000 in
theorem gX6_eRead_X6_next : GoodIn wsX6_eRead (wsV RX6 157 RX6 yX6_next wsX6_next) := goodIn_app (goodIn_of _ (by decide +kernel)) ggX6_eRead_X6_next
set_option maxRecDepth 20000 in
theorem ggX6_eRead_X6_puts : GoodIn wsX6_eRead wsX6_puts := goodIn_r _ [26, 27, 28, 29, 54, 55, 56, 57, 58, 59, 60, 61, 62, 63, 64, 65, 66, 67, 68, 69, 70, 71, 72, 73, 74, 75, 76, 77, 78, 79, 80, 81, 82, 83, 84, 85, 86, 87, 88, 89, 90, 91] rfl (by decide +kernel)
set_option maxRecDepth 20000 in
theorem gX6_eRead_X6_puts : GoodIn wsX6_eRead (wsV RX6 147 RX6 yX6_puts wsX6_puts) := goodIn_app (goodIn_of _ (by decide +kernel)) ggX6_eRead_X6_puts
set_option maxRecDepth 20000 in
theorem ggX6_eRead_X6_unwinds : GoodIn wsX6_eRead wsX6_unwinds := goodIn_r _ [33, 1, 34, 2, 35, 36, 9, 37, 23, 24, 25, 26, 27, 28, 29, 54, 55, 56, 57, 58, 59, 60, 61, 62, 63, 64, 65, 66, 67, 68, 69, 70, 71, 72, 73, 74, 75, 76, 77, 78, 79, 80, 81, 82, 83, 84, 85, 86, 87, 88, 89, 90, 91] rfl (by decide +kernel)
set_option maxRecDepth 20000 in
theorem gX6_eRead_X6_unwinds : GoodIn wsX6_eRead (wsV RX6 154 RX6 yX6_unwinds wsX6_unwinds) := goodIn_app (goodIn_of _ (by decide +kernel)) ggX6_eRead_X6_unwinds
set_option maxRecDepth 20000 in
theorem ggX6_eRead_X6_opensOne : GoodIn wsX6_eRead wsX6_opensOne := goodIn_r _ [41, 2, 42, 43, 44, 9, 45, 34, 1, 54, 55, 56, 57, 58, 59, 60, 61, 62, 63, 64, 65, 66, 67, 68, 69, 70, 71, 72, 73, 74, 75, 76, 77, 78, 79, 80, 81, 82, 83, 84, 85, 86, 87, 88, 89, 90, 91] rfl (by decide +kernel)
set_option maxRecDepth 20000 in
theorem gX6_eRead_X6_opensOne : GoodIn wsX6_eRead (wsV RX6 161 RX6 yX6_opensOne wsX6_opensOne) := goodIn_app (goodIn_of _ (by decide +kernel)) ggX6_eRead_X6_opensOne
set_option maxRecDepth 20000 in
theorem ggX6_eRead_X6_signOf : GoodIn wsX6_eRead wsX6_signOf := goodIn_r _ [49, 3, 54, 55, 56, 57, 58, 59, 60, 61, 62, 63, 64, 65, 66, 67, 68, 69, 70, 71, 72, 73, 74, 75, 76, 77, 78, 79, 80, 81, 82, 83, 84, 85, 86, 87, 88, 89, 90, 91] rfl (by decide +kernel)
set_option maxRecDepth 20000 in
theorem gX6_eRead_X6_signOf : GoodIn wsX6_eRead (wsV RX6 164 RX6 yX6_signOf wsX6_signOf) := goodIn_app (goodIn_of _ (by decide +kernel)) ggX6_eRead_X6_signOf
set_option maxRecDepth 20000 in
theorem ggX6_eRead_X6_between : GoodIn wsX6_eRead wsX6_between := goodIn_r _ [53, 1, 34, 35, 36, 9, 37, 30, 31, 32, 33, 2, 23, 24, 25, 26, 27, 28, 29, 42, 43, 44, 45, 54, 55, 56, 57, 58, 59, 60, 61, 62, 63, 64, 65, 66, 67, 68, 69, 70, 71, 72, 73, 74, 75, 76, 77, 78, 79, 80, 81, 82, 83, 84, 85, 86, 87, 88, 89, 90, 91] rfl (by decide +kernel)
