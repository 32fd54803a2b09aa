theorem dL_law_321 : decode cL_law 321 = .ok (.iconst 0, 1) := by decide +kernel
theorem dL_law_322 : decode cL_law 322 = .ok (.goto 4, 3) := by decide +kernel
theorem dL_law_325 : decode cL_law 325 = .ok (.iconst 1, 1) := by decide +kernel
theorem dL_law_326 : decode cL_law 326 = .ok (.iadd, 1) := by decide +kernel
theorem dL_law_327 : decode cL_law 327 = .ok (.istore_n 3, 1) := by decide +kernel
theorem dL_law_328 : decode cL_law 328 = .ok (.iinc 6 1, 3) := by decide +kernel
theorem dL_law_331 : decode cL_law 331 = .ok (.goto (-264), 3) := by decide +kernel
theorem dL_law_334 : decode cL_law 334 = .ok (.aload_n 2, 1) := by decide +kernel
theorem dL_law_335 : decode cL_law 335 = .ok (.iload_n 3, 1) := by decide +kernel
theorem dL_law_336 : decode cL_law 336 = .ok (.aload_n 1, 1) := by decide +kernel
theorem dL_law_337 : decode cL_law 337 = .ok (.invokestatic 88, 3) := by decide +kernel
theorem dL_law_340 : decode cL_law 340 = .ok (.lastore, 1) := by decide +kernel
theorem dL_law_341 : decode cL_law 341 = .ok (.aload_n 1, 1) := by decide +kernel
theorem dL_law_342 : decode cL_law 342 = .ok (.invokestatic 100, 3) := by decide +kernel
theorem dL_law_345 : decode cL_law 345 = .ok (.ifCond .eq 54, 3) := by decide +kernel
theorem dL_law_348 : decode cL_law 348 = .ok (.aload_n 1, 1) := by decide +kernel
theorem dL_law_349 : decode cL_law 349 = .ok (.aload_n 2, 1) := by decide +kernel
theorem dL_law_350 : decode cL_law 350 = .ok (.iload_n 3, 1) := by decide +kernel
theorem dL_law_351 : decode cL_law 351 = .ok (.invokestatic 159, 3) := by decide +kernel
theorem dL_law_354 : decode cL_law 354 = .ok (.ifCond .eq 45, 3) := by decide +kernel
theorem dL_law_357 : decode cL_law 357 = .ok (.aload_n 1, 1) := by decide +kernel
theorem dL_law_358 : decode cL_law 358 = .ok (.invokevirtual 97, 3) := by decide +kernel
theorem dL_law_361 : decode cL_law 361 = .ok (.bipush (-5), 2) := by decide +kernel
theorem dL_law_363 : decode cL_law 363 = .ok (.if_icmp .ne 36, 3) := by decide +kernel
theorem dL_law_366 : decode cL_law 366 = .ok (.aload_n 1, 1) := by decide +kernel
theorem dL_law_367 : decode cL_law 367 = .ok (.iconst 0, 1) := by decide +kernel
theorem dL_law_368 : decode cL_law 368 = .ok (.invokevirtual 75, 3) := by decide +kernel
theorem dL_law_371 : decode cL_law 371 = .ok (.iconst 1, 1) := by decide +kernel
theorem dL_law_372 : decode cL_law 372 = .ok (.if_icmp .ne 27, 3) := by decide +kernel
theorem dL_law_375 : decode cL_law 375 = .ok (.aload_n 1, 1) := by decide +kernel
theorem dL_law_376 : decode cL_law 376 = .ok (.invokestatic 88, 3) := by decide +kernel
theorem dL_law_379 : decode cL_law 379 = .ok (.lload 4, 2) := by decide +kernel
theorem dL_law_381 : decode cL_law 381 = .ok (.lcmp, 1) := by decide +kernel
theorem dL_law_382 : decode cL_law 382 = .ok (.ifCond .ne 17, 3) := by decide +kernel
theorem dL_law_385 : decode cL_law 385 = .ok (.aload_n 1, 1) := by decide +kernel
theorem dL_law_386 : decode cL_law 386 = .ok (.bipush 10, 2) := by decide +kernel
theorem dL_law_388 : decode cL_law 388 = .ok (.invokevirtual 11, 3) := by decide +kernel
theorem dL_law_391 : decode cL_law 391 = .ok (.iconst 1, 1) := by decide +kernel
theorem dL_law_392 : decode cL_law 392 = .ok (.if_icmp .ne 7, 3) := by decide +kernel
theorem dL_law_395 : decode cL_law 395 = .ok (.iconst 1, 1) := by decide +kernel
theorem dL_law_396 : decode cL_law 396 = .ok (.goto 4, 3) := by decide +kernel
theorem dL_law_399 : decode cL_law 399 = .ok (.iconst 0, 1) := by decide +kernel
theorem dL_law_400 : decode cL_law 400 = .ok (.ireturn, 1) := by decide +kernel
set_option maxRecDepth 20000 in
theorem ggL_isTakenBack_X7_count : GoodIn wsL_isTakenBack wsX7_count := goodIn_r _ [5, 6, 7, 8, 9, 10, 11, 12, 13, 14, 15, 16, 17, 18, 19, 20, 21, 22, 23, 24, 25, 26, 27, 28, 29, 30, 31, 32, 33, 34, 35, 36, 37, 38, 39, 40, 41, 42, 43, 44, 45, 46, 47, 48, 49, 50, 51, 52, 53, 54, 55, 56, 57, 58, 59, 60, 61, 62, 63, 64, 65, 66, 67, 68, 69, 70, 71, 72, 73, 74, 75, 76, 77, 78, 79, 80, 81, 82, 83, 84, 85, 86, 87, 88, 89, 90, 91, 92, 93, 94, 95, 96, 97, 98, 99, 100, 101, 102, 103, 104, 191, 192, 193, 194, 195, 196, 197, 198, 199, 200, 201, 202, 203, 204, 205, 206, 207] (by decide +kernel) (by decide +kernel)
set_option maxRecDepth 20000 in
theorem gL_isTakenBack_X7_count : GoodIn wsL_isTakenBack (wsV RL 11 RX7 yX7_count wsX7_count) := goodIn_app (goodIn_of _ (by decide +kernel)) ggL_isTakenBack_X7_count
set_option maxRecDepth 20000 in
theorem ggL_isTakenBack_L_seen : GoodIn wsL_isTakenBack wsL_seen := goodIn_r _ [108, 109, 1, 2, 3, 4, 5, 6, 7, 8, 9, 10, 11, 12, 13, 14, 15, 16, 17, 18, 19, 20, 21, 22, 23, 24, 25, 26, 27, 28, 29, 30, 31, 32, 33, 34, 35, 36, 37, 38, 39, 40, 41, 42, 43, 44, 45, 46, 47, 48, 49, 50, 51, 52, 53, 54, 55, 56, 57, 58, 59, 60, 61, 62, 63, 64, 65, 66, 67, 68, 69, 70, 71, 72, 73, 74, 75, 76, 77, 78, 79, 80, 81, 82, 83, 84, 85, 86, 87, 88, 89, 90, 91, 92, 93, 94, 95, 96, 97, 98, 99, 100, 101, 102, 103, 104, 110, 111, 112, 113, 114, 115, 116, 117, 118, 119, 120, 121, 122, 123, 124, 125, 126, 127, 128, 129, 130, 131, 132, 133, 134, 135, 136, 137, 138, 139, 140, 141, 142, 143, 144, 145, 146, 147, 148, 149, 150, 151, 152, 153, 154, 191, 192, 193, 194, 195, 196, 197, 198, 199, 200, 201, 202, 203, 204, 205, 206, 207] (by decide +kernel) (by decide +kernel)
set_option maxRecDepth 20000 in
theorem gL_isTakenBack_L_seen : GoodIn wsL_isTakenBack (va_wsS RL 88 yL_seen wsL_seen) := goodIn_app (goodIn_of _ (by decide +kernel)) ggL_isTakenBack_L_seen
set_option maxRecDepth 20000 in
theorem ggL_isTakenBack_X7_undo : GoodIn wsL_isTakenBack wsX7_undo := goodIn_r _ [158, 14, 15, 6, 159, 160, 161, 162, 163, 164, 165, 55, 56, 57, 166, 167, 168, 169, 19, 170, 28, 171, 172, 173, 174, 175, 176, 120, 121, 39, 122, 123, 124, 115, 116, 117, 118, 177, 178, 179, 180, 35, 103, 96, 70, 97, 181, 182, 183, 184, 185, 186, 187, 188, 46, 45, 189, 190, 191, 192, 193, 194, 206, 207, 195, 196, 197, 198, 199, 200, 201, 202] (by decide +kernel) (by decide +kernel)
set_option maxRecDepth 20000 in
theorem gL_isTakenBack_X7_undo : GoodIn wsL_isTakenBack (wsV RL 97 RX7 yX7_undo wsX7_undo) := goodIn_app (goodIn_of _ (by decide +kernel)) ggL_isTakenBack_X7_undo
theorem dL_isTakenBack_0 : decode cL_isTakenBack 0 = .ok (.iconst 0, 1) := by decide +kernel
theorem dL_isTakenBack_1 : decode cL_isTakenBack 1 = .ok (.istore_n 3, 1) := by decide +kernel
theorem dL_isTakenBack_2 : decode cL_isTakenBack 2 = .ok (.aload_n 0, 1) := by decide +kernel
theorem dL_isTakenBack_3 : decode cL_isTakenBack 3 = .ok (.bipush 10, 2) := by decide +kernel
theorem dL_isTakenBack_5 : decode cL_isTakenBack 5 = .ok (.invokevirtual 11, 3) := by decide +kernel
theorem dL_isTakenBack_8 : decode cL_isTakenBack 8 = .ok (.ifCond .le 53, 3) := by decide +kernel
theorem dL_isTakenBack_11 : decode cL_isTakenBack 11 = .ok (.iload_n 3, 1) := by decide +kernel
theorem dL_isTakenBack_12 : decode cL_isTakenBack 12 = .ok (.iload_n 2, 1) := by decide +kernel
theorem dL_isTakenBack_13 : decode cL_isTakenBack 13 = .ok (.if_icmp .ge 48, 3) := by decide +kernel
theorem dL_isTakenBack_16 : decode cL_isTakenBack 16 = .ok (.aload_n 0, 1) := by decide +kernel
theorem dL_isTakenBack_17 : decode cL_isTakenBack 17 = .ok (.bipush 10, 2) := by decide +kernel
theorem dL_isTakenBack_19 : decode cL_isTakenBack 19 = .ok (.invokevirtual 11, 3) := by decide +kernel
theorem dL_isTakenBack_22 : decode cL_isTakenBack 22 = .ok (.istore 4, 2) := by decide +kernel
theorem dL_isTakenBack_24 : decode cL_isTakenBack 24 = .ok (.iload_n 3, 1) := by decide +kernel
theorem dL_isTakenBack_25 : decode cL_isTakenBack 25 = .ok (.iconst 5, 1) := by decide +kernel
theorem dL_isTakenBack_26 : decode cL_isTakenBack 26 = .ok (.if_icmp .gt 27, 3) := by decide +kernel
theorem dL_isTakenBack_29 : decode cL_isTakenBack 29 = .ok (.aload_n 0, 1) := by decide +kernel
theorem dL_isTakenBack_30 : decode cL_isTakenBack 30 = .ok (.invokestatic 88, 3) := by decide +kernel
theorem dL_isTakenBack_33 : decode cL_isTakenBack 33 = .ok (.aload_n 1, 1) := by decide +kernel
theorem dL_isTakenBack_34 : decode cL_isTakenBack 34 = .ok (.iload_n 2, 1) := by decide +kernel
theorem dL_isTakenBack_35 : decode cL_isTakenBack 35 = .ok (.iload_n 3, 1) := by decide +kernel
theorem dL_isTakenBack_36 : decode cL_isTakenBack 36 = .ok (.isub, 1) := by decide +kernel
theorem dL_isTakenBack_37 : decode cL_isTakenBack 37 = .ok (.laload, 1) := by decide +kernel
theorem dL_isTakenBack_38 : decode cL_isTakenBack 38 = .ok (.lcmp, 1) := by decide +kernel
theorem dL_isTakenBack_39 : decode cL_isTakenBack 39 = .ok (.ifCond .ne 14, 3) := by decide +kernel
theorem dL_isTakenBack_42 : decode cL_isTakenBack 42 = .ok (.aload_n 0, 1) := by decide +kernel
theorem dL_isTakenBack_43 : decode cL_isTakenBack 43 = .ok (.invokevirtual 97, 3) := by decide +kernel
theorem dL_isTakenBack_46 : decode cL_isTakenBack 46 = .ok (.iload 4, 2) := by decide +kernel
theorem dL_isTakenBack_48 : decode cL_isTakenBack 48 = .ok (.iconst 1, 1) := by decide +kernel
theorem dL_isTakenBack_49 : decode cL_isTakenBack 49 = .ok (.isub, 1) := by decide +kernel
theorem dL_isTakenBack_50 : decode cL_isTakenBack 50 = .ok (.if_icmp .eq 5, 3) := by decide +kernel
theorem dL_isTakenBack_53 : decode cL_isTakenBack 53 = .ok (.iconst 0, 1) := by decide +kernel
theorem dL_isTakenBack_54 : decode cL_isTakenBack 54 = .ok (.ireturn, 1) := by decide +kernel
theorem dL_isTakenBack_55 : decode cL_isTakenBack 55 = .ok (.iinc 3 1, 3) := by decide +kernel
theorem dL_isTakenBack_58 : decode cL_isTakenBack 58 = .ok (.goto (-56), 3) := by decide +kernel
theorem dL_isTakenBack_61 : decode cL_isTakenBack 61 = .ok (.aload_n 0, 1) := by decide +kernel
theorem dL_isTakenBack_62 : decode cL_isTakenBack 62 = .ok (.bipush 10, 2) := by decide +kernel
theorem dL_isTakenBack_64 : decode cL_isTakenBack 64 = .ok (.invokevirtual 11, 3) := by decide +kernel
theorem dL_isTakenBack_67 : decode cL_isTakenBack 67 = .ok (.ifCond .le 12, 3) := by decide +kernel
theorem dL_isTakenBack_70 : decode cL_isTakenBack 70 = .ok (.aload_n 0, 1) := by decide +kernel
theorem dL_isTakenBack_71 : decode cL_isTakenBack 71 = .ok (.invokevirtual 97, 3) := by decide +kernel
theorem dL_isTakenBack_74 : decode cL_isTakenBack 74 = .ok (.ifCond .ge (-13), 3) := by decide +kernel
theorem dL_isTakenBack_77 : decode cL_isTakenBack 77 = .ok (.iconst 0, 1) := by decide +kernel
theorem dL_isTakenBack_78 : decode cL_isTakenBack 78 = .ok (.ireturn, 1) := by decide +kernel
theorem dL_isTakenBack_79 : decode cL_isTakenBack 79 = .ok (.iconst 1, 1) := by decide +kernel
theorem dL_isTakenBack_80 : decode cL_isTakenBack 80 = .ok (.ireturn, 1) := by decide +kernel
