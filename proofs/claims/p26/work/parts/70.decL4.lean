theorem dL_texts_278 : decode cL_texts 278 = .ok (.aload_n 0, 1) := by decide +kernel
theorem dL_texts_279 : decode cL_texts 279 = .ok (.invokevirtual 109, 3) := by decide +kernel
theorem dL_texts_282 : decode cL_texts 282 = .ok (.bipush 6, 2) := by decide +kernel
theorem dL_texts_284 : decode cL_texts 284 = .ok (.if_icmp .ne 29, 3) := by decide +kernel
theorem dL_texts_287 : decode cL_texts 287 = .ok (.aload_n 0, 1) := by decide +kernel
theorem dL_texts_288 : decode cL_texts 288 = .ok (.ldc2_w 130, 3) := by decide +kernel
theorem dL_texts_291 : decode cL_texts 291 = .ok (.invokevirtual 80, 3) := by decide +kernel
theorem dL_texts_294 : decode cL_texts 294 = .ok (.ifCond .lt 19, 3) := by decide +kernel
theorem dL_texts_297 : decode cL_texts 297 = .ok (.aload_n 0, 1) := by decide +kernel
theorem dL_texts_298 : decode cL_texts 298 = .ok (.invokevirtual 104, 3) := by decide +kernel
theorem dL_texts_301 : decode cL_texts 301 = .ok (.iconst 4, 1) := by decide +kernel
theorem dL_texts_302 : decode cL_texts 302 = .ok (.if_icmp .ne 11, 3) := by decide +kernel
theorem dL_texts_305 : decode cL_texts 305 = .ok (.aload_n 0, 1) := by decide +kernel
theorem dL_texts_306 : decode cL_texts 306 = .ok (.invokevirtual 109, 3) := by decide +kernel
theorem dL_texts_309 : decode cL_texts 309 = .ok (.iconst 5, 1) := by decide +kernel
theorem dL_texts_310 : decode cL_texts 310 = .ok (.if_icmp .eq 5, 3) := by decide +kernel
theorem dL_texts_313 : decode cL_texts 313 = .ok (.iconst 0, 1) := by decide +kernel
theorem dL_texts_314 : decode cL_texts 314 = .ok (.ireturn, 1) := by decide +kernel
theorem dL_texts_315 : decode cL_texts 315 = .ok (.aload_n 0, 1) := by decide +kernel
theorem dL_texts_316 : decode cL_texts 316 = .ok (.ldc2_w 132, 3) := by decide +kernel
theorem dL_texts_319 : decode cL_texts 319 = .ok (.invokevirtual 80, 3) := by decide +kernel
theorem dL_texts_322 : decode cL_texts 322 = .ok (.bipush 8, 2) := by decide +kernel
theorem dL_texts_324 : decode cL_texts 324 = .ok (.if_icmp .ne 98, 3) := by decide +kernel
theorem dL_texts_327 : decode cL_texts 327 = .ok (.aload_n 0, 1) := by decide +kernel
theorem dL_texts_328 : decode cL_texts 328 = .ok (.ldc2_w 134, 3) := by decide +kernel
theorem dL_texts_331 : decode cL_texts 331 = .ok (.invokevirtual 80, 3) := by decide +kernel
theorem dL_texts_334 : decode cL_texts 334 = .ok (.bipush 15, 2) := by decide +kernel
theorem dL_texts_336 : decode cL_texts 336 = .ok (.if_icmp .ne 86, 3) := by decide +kernel
theorem dL_texts_339 : decode cL_texts 339 = .ok (.aload_n 0, 1) := by decide +kernel
theorem dL_texts_340 : decode cL_texts 340 = .ok (.ldc2_w 136, 3) := by decide +kernel
theorem dL_texts_343 : decode cL_texts 343 = .ok (.invokevirtual 80, 3) := by decide +kernel
theorem dL_texts_346 : decode cL_texts 346 = .ok (.bipush 19, 2) := by decide +kernel
theorem dL_texts_348 : decode cL_texts 348 = .ok (.if_icmp .ne 74, 3) := by decide +kernel
theorem dL_texts_351 : decode cL_texts 351 = .ok (.aload_n 0, 1) := by decide +kernel
theorem dL_texts_352 : decode cL_texts 352 = .ok (.invokevirtual 104, 3) := by decide +kernel
theorem dL_texts_355 : decode cL_texts 355 = .ok (.bipush (-6), 2) := by decide +kernel
theorem dL_texts_357 : decode cL_texts 357 = .ok (.if_icmp .ne 65, 3) := by decide +kernel
theorem dL_texts_360 : decode cL_texts 360 = .ok (.aload_n 0, 1) := by decide +kernel
theorem dL_texts_361 : decode cL_texts 361 = .ok (.invokevirtual 43, 3) := by decide +kernel
theorem dL_texts_364 : decode cL_texts 364 = .ok (.iconst 3, 1) := by decide +kernel
theorem dL_texts_365 : decode cL_texts 365 = .ok (.if_icmp .ne 57, 3) := by decide +kernel
theorem dL_texts_368 : decode cL_texts 368 = .ok (.aload_n 0, 1) := by decide +kernel
theorem dL_texts_369 : decode cL_texts 369 = .ok (.iconst 0, 1) := by decide +kernel
theorem dL_texts_370 : decode cL_texts 370 = .ok (.invokevirtual 11, 3) := by decide +kernel
theorem dL_texts_373 : decode cL_texts 373 = .ok (.iconst 3, 1) := by decide +kernel
theorem dL_texts_374 : decode cL_texts 374 = .ok (.if_icmp .ne 48, 3) := by decide +kernel
theorem dL_texts_377 : decode cL_texts 377 = .ok (.aload_n 0, 1) := by decide +kernel
theorem dL_texts_378 : decode cL_texts 378 = .ok (.bipush 9, 2) := by decide +kernel
theorem dL_texts_380 : decode cL_texts 380 = .ok (.invokevirtual 11, 3) := by decide +kernel
theorem dL_texts_383 : decode cL_texts 383 = .ok (.ifCond .ne 39, 3) := by decide +kernel
theorem dL_texts_386 : decode cL_texts 386 = .ok (.aload_n 0, 1) := by decide +kernel
theorem dL_texts_387 : decode cL_texts 387 = .ok (.bipush 10, 2) := by decide +kernel
theorem dL_texts_389 : decode cL_texts 389 = .ok (.invokevirtual 11, 3) := by decide +kernel
theorem dL_texts_392 : decode cL_texts 392 = .ok (.iconst 1, 1) := by decide +kernel
theorem dL_texts_393 : decode cL_texts 393 = .ok (.if_icmp .ne 29, 3) := by decide +kernel
theorem dL_texts_396 : decode cL_texts 396 = .ok (.aload_n 0, 1) := by decide +kernel
theorem dL_texts_397 : decode cL_texts 397 = .ok (.iconst 2, 1) := by decide +kernel
theorem dL_texts_398 : decode cL_texts 398 = .ok (.iconst 0, 1) := by decide +kernel
theorem dL_texts_399 : decode cL_texts 399 = .ok (.invokevirtual 17, 3) := by decide +kernel
theorem dL_texts_402 : decode cL_texts 402 = .ok (.bipush 9, 2) := by decide +kernel
theorem dL_texts_404 : decode cL_texts 404 = .ok (.if_icmp .ne 18, 3) := by decide +kernel
theorem dL_texts_407 : decode cL_texts 407 = .ok (.aload_n 0, 1) := by decide +kernel
theorem dL_texts_408 : decode cL_texts 408 = .ok (.invokevirtual 97, 3) := by decide +kernel
theorem dL_texts_411 : decode cL_texts 411 = .ok (.ifCond .ne 11, 3) := by decide +kernel
theorem dL_texts_414 : decode cL_texts 414 = .ok (.aload_n 0, 1) := by decide +kernel
theorem dL_texts_415 : decode cL_texts 415 = .ok (.iconst 0, 1) := by decide +kernel
theorem dL_texts_416 : decode cL_texts 416 = .ok (.invokevirtual 11, 3) := by decide +kernel
theorem dL_texts_419 : decode cL_texts 419 = .ok (.ifCond .eq 5, 3) := by decide +kernel
theorem dL_texts_422 : decode cL_texts 422 = .ok (.iconst 0, 1) := by decide +kernel
theorem dL_texts_423 : decode cL_texts 423 = .ok (.ireturn, 1) := by decide +kernel
theorem dL_texts_424 : decode cL_texts 424 = .ok (.iconst 0, 1) := by decide +kernel
theorem dL_texts_425 : decode cL_texts 425 = .ok (.istore_n 1, 1) := by decide +kernel
theorem dL_texts_426 : decode cL_texts 426 = .ok (.iload_n 1, 1) := by decide +kernel
theorem dL_texts_427 : decode cL_texts 427 = .ok (.bipush 10, 2) := by decide +kernel
theorem dL_texts_429 : decode cL_texts 429 = .ok (.if_icmp .ge 28, 3) := by decide +kernel
theorem dL_texts_432 : decode cL_texts 432 = .ok (.aload_n 0, 1) := by decide +kernel
theorem dL_texts_433 : decode cL_texts 433 = .ok (.ldc2_w 138, 3) := by decide +kernel
theorem dL_texts_436 : decode cL_texts 436 = .ok (.invokevirtual 80, 3) := by decide +kernel
theorem dL_texts_439 : decode cL_texts 439 = .ok (.bipush 8, 2) := by decide +kernel
theorem dL_texts_441 : decode cL_texts 441 = .ok (.iload_n 1, 1) := by decide +kernel
theorem dL_texts_442 : decode cL_texts 442 = .ok (.imul, 1) := by decide +kernel
theorem dL_texts_443 : decode cL_texts 443 = .ok (.bipush 8, 2) := by decide +kernel
theorem dL_texts_445 : decode cL_texts 445 = .ok (.iadd, 1) := by decide +kernel
theorem dL_texts_446 : decode cL_texts 446 = .ok (.if_icmp .eq 5, 3) := by decide +kernel
theorem dL_texts_449 : decode cL_texts 449 = .ok (.iconst 0, 1) := by decide +kernel
theorem dL_texts_450 : decode cL_texts 450 = .ok (.ireturn, 1) := by decide +kernel
theorem dL_texts_451 : decode cL_texts 451 = .ok (.iinc 1 1, 3) := by decide +kernel
theorem dL_texts_454 : decode cL_texts 454 = .ok (.goto (-28), 3) := by decide +kernel
theorem dL_texts_457 : decode cL_texts 457 = .ok (.aload_n 0, 1) := by decide +kernel
theorem dL_texts_458 : decode cL_texts 458 = .ok (.ldc2_w 140, 3) := by decide +kernel
theorem dL_texts_461 : decode cL_texts 461 = .ok (.invokevirtual 80, 3) := by decide +kernel
theorem dL_texts_464 : decode cL_texts 464 = .ok (.bipush (-4), 2) := by decide +kernel
theorem dL_texts_466 : decode cL_texts 466 = .ok (.if_icmp .ne 46, 3) := by decide +kernel
theorem dL_texts_469 : decode cL_texts 469 = .ok (.aload_n 0, 1) := by decide +kernel
theorem dL_texts_470 : decode cL_texts 470 = .ok (.ldc2_w 84, 3) := by decide +kernel
theorem dL_texts_473 : decode cL_texts 473 = .ok (.invokevirtual 80, 3) := by decide +kernel
theorem dL_texts_476 : decode cL_texts 476 = .ok (.bipush (-2), 2) := by decide +kernel
theorem dL_texts_478 : decode cL_texts 478 = .ok (.if_icmp .ne 34, 3) := by decide +kernel
theorem dL_texts_481 : decode cL_texts 481 = .ok (.aload_n 0, 1) := by decide +kernel
theorem dL_texts_482 : decode cL_texts 482 = .ok (.invokevirtual 104, 3) := by decide +kernel
theorem dL_texts_485 : decode cL_texts 485 = .ok (.bipush 80, 2) := by decide +kernel
theorem dL_texts_487 : decode cL_texts 487 = .ok (.if_icmp .ne 25, 3) := by decide +kernel
theorem dL_texts_490 : decode cL_texts 490 = .ok (.aload_n 0, 1) := by decide +kernel
theorem dL_texts_491 : decode cL_texts 491 = .ok (.invokevirtual 43, 3) := by decide +kernel
theorem dL_texts_494 : decode cL_texts 494 = .ok (.bipush (-3), 2) := by decide +kernel
theorem dL_texts_496 : decode cL_texts 496 = .ok (.if_icmp .ne 16, 3) := by decide +kernel
theorem dL_texts_499 : decode cL_texts 499 = .ok (.aload_n 0, 1) := by decide +kernel
theorem dL_texts_500 : decode cL_texts 500 = .ok (.invokevirtual 109, 3) := by decide +kernel
theorem dL_texts_503 : decode cL_texts 503 = .ok (.bipush 80, 2) := by decide +kernel
theorem dL_texts_505 : decode cL_texts 505 = .ok (.if_icmp .ne 7, 3) := by decide +kernel
theorem dL_texts_508 : decode cL_texts 508 = .ok (.iconst 1, 1) := by decide +kernel
theorem dL_texts_509 : decode cL_texts 509 = .ok (.goto 4, 3) := by decide +kernel
theorem dL_texts_512 : decode cL_texts 512 = .ok (.iconst 0, 1) := by decide +kernel
theorem dL_texts_513 : decode cL_texts 513 = .ok (.ireturn, 1) := by decide +kernel
set_option maxRecDepth 20000 in
theorem ggL_law_L_corner : GoodIn wsL_law wsL_corner := goodIn_r _ [7, 0, 1, 2, 8, 9, 10, 11, 12, 13, 14, 15, 16, 17, 18, 19, 20, 21, 22, 23, 24, 25, 26, 27, 28, 29, 30, 31, 32, 33, 34, 35, 36, 37, 38, 39, 40, 41, 42, 43, 44, 45, 46, 47, 48, 49, 50, 51, 52, 53, 54, 55, 56, 57, 58, 59, 60, 61, 62, 63, 64, 65, 66, 67, 68, 69, 70, 71, 72, 73, 74, 75, 76, 77, 78, 79, 80, 81, 82, 83, 84, 85, 86, 87, 88, 89, 90, 91, 92, 93, 94, 95, 96, 97, 98, 99, 100, 101, 102, 103, 104, 105, 106, 107, 108, 109, 110, 111, 112, 113, 114, 115, 116, 117, 118, 119, 120, 121, 122, 123, 124, 125, 126, 127, 128, 129, 130, 131, 132, 133, 134, 135, 136, 137, 138, 139, 140, 141, 142, 143, 144, 145, 146, 147, 148, 149, 150, 151, 152, 153, 154, 155, 156, 157, 158, 159, 160, 161, 162, 163, 164, 165, 166, 167, 168, 169, 170, 171, 172, 173, 174, 175, 176, 177, 178, 179, 180, 181, 182, 183, 184, 185, 186, 187, 188, 189, 190, 191, 192, 193, 194, 195, 196, 197, 198, 199, 200, 201, 202, 203, 204, 205, 206, 207, 208, 209, 210, 211, 212, 213, 214, 215, 216, 217, 218, 219, 220, 221, 222, 223, 224, 225, 226, 227, 228, 229, 230, 231, 232, 233, 234, 235, 236, 237, 238, 239, 240, 241, 242, 243, 244, 245, 246, 247, 248, 249, 250, 251, 252, 253, 254, 255, 256, 257, 258, 259, 260, 261, 262, 263, 264, 265, 266, 267, 268, 269, 270, 271, 272, 273, 274, 275, 276, 277, 278, 279, 280, 281, 282, 283, 284, 285, 286, 287, 288, 289, 290, 291, 292, 293, 294, 295, 296, 297, 298, 299, 300, 301, 302, 303, 304, 305, 306, 307, 308, 309, 310, 311, 312, 313, 314, 315, 316, 317, 318, 319, 320, 321, 322, 323, 324, 325, 326, 327, 328, 6, 329, 330, 331, 332, 333, 334, 335, 336, 337, 338, 339, 340, 341, 342, 343, 344, 345, 346, 347, 348, 349, 350, 351, 352, 353, 354, 355, 356, 357, 358, 359, 360, 361, 362, 363, 364, 365, 366, 367, 368, 369, 370, 371, 372, 373, 374, 375, 376, 377, 378, 379, 380, 381, 382, 383, 384, 385, 386, 387, 388, 389, 390, 391, 392, 393, 394, 395, 396, 397, 398, 399, 400, 401, 402, 403, 404, 405, 406, 407, 408, 409, 410, 411, 412, 413, 414, 415, 416, 417, 418, 419, 420, 421, 422, 423, 424, 425, 426, 427, 428, 429, 430, 431, 432, 433, 434, 435, 436, 437, 438, 439, 440, 441, 442, 443, 444, 445, 446, 447, 448, 449, 450, 451, 452, 453, 454, 455, 456, 457, 458, 459, 460, 461, 462, 463, 464, 465, 466, 467, 468, 469, 470, 471, 472, 473, 474, 475, 476, 477, 478, 479, 480, 481, 482, 483, 484, 485, 486, 487, 488, 489, 490, 491, 492, 493, 494, 536, 537, 538, 539, 540, 541, 542, 543, 544, 545, 546, 547, 548, 549, 550, 551, 552, 553, 554, 555, 556, 557, 558] (by decide +kernel) (by decide +kernel)
set_option maxRecDepth 20000 in
theorem gL_law_L_corner : GoodIn wsL_law (va_wsS RL 142 yL_corner wsL_corner) := goodIn_app (goodIn_of _ (by decide +kernel)) ggL_law_L_corner
set_option maxRecDepth 20000 in
theorem ggL_law_L_limits : GoodIn wsL_law wsL_limits := goodIn_r _ [497, 0, 1, 2, 8, 9, 10, 11, 12, 13, 14, 15, 16, 17, 18, 19, 20, 21, 22, 23, 24, 25, 26, 27, 28, 29, 30, 31, 32, 33, 34, 35, 36, 37, 38, 39, 40, 41, 42, 43, 44, 45, 46, 47, 48, 49, 50, 51, 52, 53, 54, 55, 56, 57, 58, 59, 60, 61, 62, 63, 64, 297, 298, 299, 300, 118, 229, 213, 103, 214, 230, 216, 217, 301, 302, 303, 304, 96, 305, 306, 307, 308, 309, 89, 90, 91, 92, 93, 94, 95, 128, 129, 130, 131, 74, 132, 133, 134, 135, 136, 106, 107, 108, 109, 110, 111, 112, 113, 310, 311, 312, 313, 314, 315, 316, 317, 97, 98, 99, 100, 101, 102, 104, 149, 150, 151, 152, 153, 154, 155, 156, 157, 158, 159, 160, 161, 162, 163, 164, 165, 166, 167, 168, 169, 170, 171, 172, 173, 460, 461, 462, 463, 464, 465, 466, 467, 178, 468, 469, 470, 471, 220, 221, 222, 223, 418, 419, 420, 421, 422, 423, 424, 425, 426, 427, 428, 429, 430, 431, 432, 433, 434, 435, 436, 437, 438, 439, 440, 441, 201, 202, 203, 204, 205, 206, 207, 208, 442, 210, 211, 443, 198, 199, 444, 445, 446, 447, 448, 449, 450, 451, 452, 453, 454, 455, 456, 457, 458, 459, 369, 370, 371, 372, 145, 239, 240, 241, 254, 373, 374, 375, 376, 377, 378, 379, 380, 141, 142, 143, 144, 119, 146, 147, 148, 69, 174, 175, 176, 177, 179, 180, 181, 76, 77, 78, 182, 183, 184, 185, 186, 187, 188, 189, 190, 191, 192, 193, 194, 195, 196, 197, 200, 209, 212, 215, 218, 219, 224, 235, 236, 237, 238, 242, 243, 244, 245, 246, 247, 248, 249, 250, 251, 252, 253, 255, 327, 328, 6, 329, 330, 331, 332, 333, 318, 319, 320, 321, 322, 285, 231, 232, 233, 234, 323, 324, 325, 326, 334, 335, 336, 337, 338, 339, 340, 341, 342, 343, 344, 345, 346, 347, 348, 349, 350, 351, 88, 352, 353, 354, 355, 356, 357, 358, 359, 360, 361, 362, 363, 364, 365, 366, 367, 368, 381, 382, 383, 384, 385, 386, 387, 388, 389, 390, 391, 392, 393, 394, 395, 396, 397, 398, 399, 400, 401, 402, 403, 404, 405, 406, 407, 408, 409, 410, 411, 412, 225, 226, 227, 228, 413, 414, 415, 416, 417, 256, 257, 258, 259, 260, 261, 262, 263, 264, 265, 266, 267, 268, 269, 270, 271, 272, 273, 274, 275, 276, 277, 278, 279, 280, 281, 282, 283, 284, 286, 287, 288, 289, 290, 291, 292, 293, 294, 295, 296, 472, 473, 474, 475, 120, 121, 122, 476, 477, 478, 479, 127, 480, 114, 115, 116, 117, 123, 124, 125, 126, 137, 138, 139, 140, 79, 80, 81, 82, 83, 84, 85, 86, 87, 105, 481, 482, 483, 484, 485, 486, 487, 488, 489, 490, 491, 492, 493, 494, 536, 537, 538, 539, 540, 541, 542, 543, 544, 545, 546, 547, 548, 549, 550, 551, 552, 553, 554, 555, 556, 557, 558] (by decide +kernel) (by decide +kernel)
set_option maxRecDepth 20000 in
theorem gL_law_L_limits : GoodIn wsL_law (va_wsS RL 146 yL_limits wsL_limits) := goodIn_app (goodIn_of _ (by decide +kernel)) ggL_law_L_limits
set_option maxRecDepth 20000 in
theorem ggL_law_L_texts : GoodIn wsL_law wsL_texts := goodIn_r _ [500, 0, 1, 2, 501, 502, 503, 504, 505, 506, 507, 508, 509, 510, 511, 512, 513, 514, 515, 516, 338, 8, 9, 10, 11, 12, 13, 14, 15, 16, 17, 18, 19, 20, 21, 22, 23, 24, 25, 26, 27, 28, 29, 30, 31, 32, 33, 34, 35, 36, 37, 38, 39, 40, 41, 42, 43, 44, 45, 46, 47, 48, 49, 50, 51, 52, 53, 54, 55, 56, 57, 58, 59, 60, 61, 62, 63, 64, 517, 518, 519, 520, 385, 386, 387, 388, 389, 390, 391, 392, 393, 394, 395, 396, 397, 398, 399, 381, 382, 383, 384, 118, 128, 129, 130, 131, 74, 132, 133, 134, 135, 136, 106, 107, 108, 109, 110, 111, 112, 96, 113, 400, 401, 402, 403, 404, 216, 103, 217, 405, 406, 407, 408, 301, 302, 303, 304, 305, 306, 307, 308, 309, 89, 90, 91, 92, 93, 94, 95, 310, 311, 312, 313, 314, 315, 316, 317, 97, 98, 99, 100, 101, 102, 104, 409, 410, 411, 412, 481, 482, 483, 484, 148, 485, 486, 487, 488, 489, 490, 491, 492, 493, 494, 521, 522, 523, 524, 141, 142, 143, 144, 119, 145, 146, 147, 69, 149, 150, 151, 152, 153, 154, 155, 156, 157, 158, 159, 160, 161, 162, 163, 164, 165, 166, 167, 168, 169, 170, 171, 172, 173, 174, 175, 176, 177, 178, 179, 180, 181, 76, 77, 78, 182, 183, 184, 185, 186, 187, 188, 189, 190, 191, 192, 193, 194, 195, 196, 197, 198, 199, 200, 201, 202, 203, 204, 205, 206, 207, 208, 209, 210, 211, 212, 213, 214, 215, 218, 219, 220, 221, 222, 223, 224, 318, 319, 320, 321, 322, 285, 242, 243, 231, 232, 233, 234, 323, 324, 325, 326, 65, 66, 67, 68, 70, 71, 72, 73, 75, 79, 80, 81, 82, 83, 84, 85, 86, 87, 88, 105, 536, 537, 538, 539, 540, 541, 542, 543, 544, 545, 546, 547, 548, 549, 550, 551, 552, 553, 554] (by decide +kernel) (by decide +kernel)
set_option maxRecDepth 20000 in
theorem gL_law_L_texts : GoodIn wsL_law (va_wsS RL 149 yL_texts wsL_texts) := goodIn_app (goodIn_of _ (by decide +kernel)) ggL_law_L_texts
set_option maxRecDepth 20000 in
theorem ggL_law_X7_init : GoodIn wsL_law wsX7_init := goodIn_r _ [10, 11, 12, 13, 14, 15, 16, 17, 18, 19, 20, 21, 22, 23, 24, 25, 26, 27, 28, 29, 30, 31, 32, 33, 34, 35, 36, 37, 38, 39, 40, 41, 42, 43, 44, 45, 46, 47, 48, 49, 50, 51, 52, 53, 54, 55, 56, 57, 58, 59, 60, 61, 62, 63, 64, 540, 541, 536, 537, 538, 539, 542, 543, 544, 545, 546, 547, 548, 549, 550, 551, 552, 553, 554] (by decide +kernel) (by decide +kernel)
set_option maxRecDepth 20000 in
theorem gL_law_X7_init : GoodIn wsL_law (wsX7_init) := ggL_law_X7_init
set_option maxRecDepth 20000 in
theorem ggL_law_X7_point : GoodIn wsL_law wsX7_point := goodIn_r _ [300, 17, 118, 21, 229, 213, 103, 214, 230, 216, 217, 301, 302, 303, 35, 304, 96, 305, 306, 307, 308, 309, 89, 90, 91, 42, 92, 93, 94, 95, 128, 129, 130, 20, 131, 74, 51, 132, 133, 134, 135, 136, 106, 107, 108, 109, 110, 111, 112, 43, 113, 44, 45, 310, 311, 312, 16, 313, 36, 314, 315, 316, 317, 97, 98, 99, 100, 38, 101, 102, 104, 149, 150, 151, 152, 153, 154, 155, 156, 157, 158, 159, 160, 161, 162, 163, 164, 165, 166, 167, 168, 169, 170, 171, 172, 173, 536, 537, 538, 539, 540, 541, 549, 550, 551, 552, 553, 554, 542, 543] (by decide +kernel) (by decide +kernel)
set_option maxRecDepth 20000 in
theorem gL_law_X7_point : GoodIn wsL_law (wsV RL 29 RX7 yX7_point wsX7_point) := goodIn_app (goodIn_of _ (by decide +kernel)) ggL_law_X7_point
set_option maxRecDepth 20000 in
theorem ggL_law_X7_save : GoodIn wsL_law wsX7_save := goodIn_r _ [475, 25, 17, 118, 119, 120, 121, 24, 122, 476, 477, 478, 479, 57, 59, 127, 480, 106, 107, 35, 108, 42, 109, 110, 111, 112, 43, 96, 113, 44, 45, 536, 537, 538, 539, 540, 541, 549, 550, 551, 552, 553, 554, 544, 545] (by decide +kernel) (by decide +kernel)
set_option maxRecDepth 20000 in
theorem gL_law_X7_save : GoodIn wsL_law (wsV RL 72 RX7 yX7_save wsX7_save) := goodIn_app (goodIn_of _ (by decide +kernel)) ggL_law_X7_save
set_option maxRecDepth 20000 in
theorem ggL_law_L_seen : GoodIn wsL_law wsL_seen := goodIn_r _ [332, 333, 141, 142, 143, 2, 144, 17, 118, 119, 145, 146, 147, 29, 148, 21, 69, 149, 150, 151, 16, 152, 153, 154, 155, 156, 157, 158, 159, 36, 160, 161, 162, 163, 164, 165, 38, 166, 167, 168, 35, 169, 170, 171, 172, 173, 113, 43, 174, 175, 176, 177, 178, 179, 180, 181, 76, 77, 78, 182, 183, 184, 185, 186, 187, 188, 189, 190, 191, 192, 193, 103, 194, 195, 196, 197, 198, 199, 200, 201, 202, 203, 204, 205, 206, 207, 208, 209, 210, 211, 212, 213, 214, 215, 216, 217, 218, 102, 104, 219, 220, 221, 222, 223, 101, 224, 318, 319, 320, 321, 322, 93, 94, 95, 96, 285, 89, 90, 91, 42, 92, 242, 243, 231, 232, 233, 234, 323, 324, 325, 326, 309, 235, 236, 237, 238, 239, 240, 241, 244, 245, 246, 247, 248, 249, 250, 251, 252, 253, 254, 255, 536, 537, 538, 539, 540, 541, 549, 550, 551, 552, 553, 554, 546, 547, 548, 542, 543] (by decide +kernel) (by decide +kernel)
set_option maxRecDepth 20000 in
theorem gL_law_L_seen : GoodIn wsL_law (va_wsS RL 88 yL_seen wsL_seen) := goodIn_app (goodIn_of _ (by decide +kernel)) ggL_law_L_seen
set_option maxRecDepth 20000 in
theorem ggL_law_L_drawn : GoodIn wsL_law wsL_drawn := goodIn_r _ [527, 528] (by decide +kernel) (by decide +kernel)
set_option maxRecDepth 20000 in
theorem gL_law_L_drawn : GoodIn wsL_law (va_wsS RL 152 yL_drawn wsL_drawn) := goodIn_app (goodIn_of _ (by decide +kernel)) ggL_law_L_drawn
set_option maxRecDepth 20000 in
theorem ggL_law_L_part : GoodIn wsL_law wsL_part := goodIn_r _ [531, 532] (by decide +kernel) (by decide +kernel)
set_option maxRecDepth 20000 in
theorem gL_law_L_part : GoodIn wsL_law (va_wsS RL 156 yL_part wsL_part) := goodIn_app (goodIn_of _ (by decide +kernel)) ggL_law_L_part
set_option maxRecDepth 20000 in
theorem ggL_law_X7_count : GoodIn wsL_law wsX7_count := goodIn_r _ [144, 17, 118, 119, 145, 146, 147, 29, 148, 21, 69, 149, 150, 151, 16, 152, 153, 154, 155, 156, 157, 158, 159, 36, 160, 161, 162, 163, 164, 165, 38, 166, 167, 168, 35, 169, 170, 171, 172, 173, 113, 43, 174, 175, 176, 177, 178, 179, 180, 181, 76, 77, 78, 182, 183, 184, 185, 186, 187, 188, 189, 190, 191, 192, 193, 103, 194, 195, 196, 197, 198, 199, 200, 201, 202, 203, 204, 205, 206, 207, 208, 209, 210, 211, 212, 213, 214, 215, 216, 217, 218, 102, 104, 219, 220, 221, 222, 223, 101, 224, 536, 537, 538, 539, 540, 541, 549, 550, 551, 552, 553, 554, 546, 547, 548, 542, 543] (by decide +kernel) (by decide +kernel)
set_option maxRecDepth 20000 in
theorem gL_law_X7_count : GoodIn wsL_law (wsV RL 11 RX7 yX7_count wsX7_count) := goodIn_app (goodIn_of _ (by decide +kernel)) ggL_law_X7_count
set_option maxRecDepth 20000 in
theorem ggL_law_X7_take : GoodIn wsL_law wsX7_take := goodIn_r _ [347, 17, 118, 21, 322, 93, 94, 35, 95, 96, 128, 129, 130, 20, 131, 74, 51, 132, 133, 134, 135, 136, 106, 107, 108, 42, 109, 110, 111, 112, 43, 113, 44, 45, 348, 349, 350, 16, 351, 36, 88, 89, 90, 91, 92, 97, 98, 99, 100, 38, 101, 102, 103, 104, 352, 353, 354, 355, 149, 150, 151, 152, 153, 154, 155, 156, 157, 158, 159, 160, 161, 162, 163, 164, 165, 166, 167, 168, 169, 170, 171, 172, 173, 536, 537, 538, 539, 540, 541, 549, 550, 551, 552, 553, 554, 542, 543] (by decide +kernel) (by decide +kernel)
set_option maxRecDepth 20000 in
theorem gL_law_X7_take : GoodIn wsL_law (wsV RL 32 RX7 yX7_take wsX7_take) := goodIn_app (goodIn_of _ (by decide +kernel)) ggL_law_X7_take
set_option maxRecDepth 20000 in
theorem ggL_law_X7_move : GoodIn wsL_law wsX7_move := goodIn_r _ [359, 17, 118, 21, 322, 93, 94, 35, 95, 96, 229, 213, 103, 214, 230, 216, 217, 360, 306, 307, 308, 309, 89, 90, 91, 42, 92, 128, 129, 130, 20, 131, 74, 51, 132, 133, 134, 135, 136, 106, 107, 108, 109, 110, 111, 112, 43, 113, 44, 45, 361, 362, 363, 16, 364, 36, 88, 97, 98, 99, 100, 38, 101, 102, 104, 365, 366, 367, 368, 149, 150, 151, 152, 153, 154, 155, 156, 157, 158, 159, 160, 161, 162, 163, 164, 165, 166, 167, 168, 169, 170, 171, 172, 173, 536, 537, 538, 539, 540, 541, 549, 550, 551, 552, 553, 554, 542, 543] (by decide +kernel) (by decide +kernel)
set_option maxRecDepth 20000 in
theorem gL_law_X7_move : GoodIn wsL_law (wsV RL 35 RX7 yX7_move wsX7_move) := goodIn_app (goodIn_of _ (by decide +kernel)) ggL_law_X7_move
set_option maxRecDepth 20000 in
theorem ggL_law_X7_split : GoodIn wsL_law wsX7_split := goodIn_r _ [372, 17, 118, 145, 21, 239, 240, 103, 241, 254, 167, 168, 35, 169, 170, 171, 172, 173, 113, 43, 128, 129, 130, 20, 131, 74, 51, 132, 133, 134, 135, 136, 106, 107, 108, 42, 109, 110, 111, 112, 96, 44, 45, 373, 374, 375, 376, 377, 378, 379, 380, 149, 150, 151, 16, 152, 153, 154, 155, 156, 157, 158, 159, 36, 160, 161, 162, 163, 164, 165, 38, 166, 536, 537, 538, 539, 540, 541, 549, 550, 551, 552, 553, 554, 542, 543] (by decide +kernel) (by decide +kernel)
set_option maxRecDepth 20000 in
theorem gL_law_X7_split : GoodIn wsL_law (wsV RL 39 RX7 yX7_split wsX7_split) := goodIn_app (goodIn_of _ (by decide +kernel)) ggL_law_X7_split
set_option maxRecDepth 20000 in
theorem ggL_law_X7_set : GoodIn wsL_law wsX7_set := goodIn_r _ [343, 17, 118, 21, 146, 147, 128, 129, 130, 20, 131, 74, 51, 132, 133, 134, 135, 136, 106, 107, 35, 108, 42, 109, 110, 111, 112, 43, 96, 113, 44, 45, 536, 537, 538, 539, 540, 541, 549, 550, 551, 552, 553, 554, 542, 543] (by decide +kernel) (by decide +kernel)
set_option maxRecDepth 20000 in
theorem gL_law_X7_set : GoodIn wsL_law (wsV RL 24 RX7 yX7_set wsX7_set) := goodIn_app (goodIn_of _ (by decide +kernel)) ggL_law_X7_set
set_option maxRecDepth 20000 in
theorem ggL_law_X7_restore : GoodIn wsL_law wsX7_restore := goodIn_r _ [117, 25, 21, 17, 118, 119, 120, 121, 24, 122, 123, 124, 125, 126, 59, 127, 128, 129, 130, 20, 131, 74, 51, 132, 133, 134, 135, 136, 106, 107, 35, 108, 42, 109, 110, 111, 112, 43, 96, 113, 44, 45, 137, 138, 139, 140, 57, 79, 80, 81, 16, 82, 36, 83, 84, 85, 86, 87, 88, 89, 90, 91, 92, 93, 94, 95, 97, 98, 99, 100, 38, 101, 102, 103, 104, 105, 536, 537, 538, 539, 540, 541, 549, 550, 551, 552, 553, 554, 544, 545, 542, 543] (by decide +kernel) (by decide +kernel)
set_option maxRecDepth 20000 in
theorem gL_law_X7_restore : GoodIn wsL_law (wsV RL 75 RX7 yX7_restore wsX7_restore) := goodIn_app (goodIn_of _ (by decide +kernel)) ggL_law_X7_restore
set_option maxRecDepth 20000 in
theorem ggL_law_L_refused : GoodIn wsL_law wsL_refused := goodIn_r _ [329, 330, 331, 6, 332, 333, 141, 142, 143, 2, 144, 17, 118, 119, 145, 146, 147, 29, 148, 21, 69, 149, 150, 151, 16, 152, 153, 154, 155, 156, 157, 158, 159, 36, 160, 161, 162, 163, 164, 165, 38, 166, 167, 168, 35, 169, 170, 171, 172, 173, 113, 43, 174, 175, 176, 177, 178, 179, 180, 181, 76, 77, 78, 182, 183, 184, 185, 186, 187, 188, 189, 190, 191, 192, 193, 103, 194, 195, 196, 197, 198, 199, 200, 201, 202, 203, 204, 205, 206, 207, 208, 209, 210, 211, 212, 213, 214, 215, 216, 217, 218, 102, 104, 219, 220, 221, 222, 223, 101, 224, 318, 319, 320, 321, 322, 93, 94, 95, 96, 285, 89, 90, 91, 42, 92, 242, 243, 231, 232, 233, 234, 323, 324, 325, 326, 309, 235, 236, 237, 238, 239, 240, 241, 244, 245, 246, 247, 248, 249, 250, 251, 252, 253, 254, 255, 334, 335, 336, 337, 338, 339, 340, 341, 342, 343, 128, 129, 130, 20, 131, 74, 51, 132, 133, 134, 135, 136, 106, 107, 108, 109, 110, 111, 112, 44, 45, 297, 298, 299, 300, 229, 230, 301, 302, 303, 304, 305, 306, 307, 308, 310, 311, 312, 313, 314, 315, 316, 317, 97, 98, 99, 100, 344, 345, 346, 347, 348, 349, 350, 351, 88, 352, 353, 354, 355, 356, 357, 358, 359, 360, 361, 362, 363, 364, 365, 366, 367, 368, 369, 370, 371, 372, 373, 374, 375, 376, 377, 378, 379, 380, 381, 382, 383, 384, 385, 386, 387, 28, 388, 389, 390, 391, 392, 393, 63, 394, 395, 396, 397, 398, 399, 400, 401, 402, 403, 64, 404, 405, 406, 407, 408, 409, 410, 411, 412, 225, 226, 227, 228, 413, 414, 415, 416, 417, 256, 257, 258, 259, 260, 261, 262, 263, 264, 265, 266, 267, 268, 269, 270, 271, 272, 273, 274, 275, 276, 277, 278, 279, 280, 418, 419, 420, 421, 422, 423, 424, 425, 426, 427, 428, 12, 13, 429, 430, 431, 432, 433, 434, 435, 436, 437, 438, 439, 440, 441, 442, 443, 444, 445, 446, 447, 448, 449, 450, 451, 452, 453, 454, 455, 456, 457, 458, 459, 281, 282, 283, 284, 286, 287, 288, 460, 461, 462, 463, 464, 465, 466, 467, 468, 469, 470, 471, 289, 290, 291, 292, 293, 294, 295, 296, 472, 473, 474, 475, 25, 120, 121, 24, 122, 476, 477, 478, 479, 57, 59, 127, 480, 114, 115, 116, 117, 123, 124, 125, 126, 137, 138, 139, 140, 79, 80, 81, 82, 83, 84, 85, 86, 87, 105, 481, 482, 483, 484, 485, 486, 487, 488, 489, 490, 491, 492, 493, 494, 536, 537, 538, 539, 540, 541, 549, 550, 551, 552, 553, 554, 546, 547, 548, 542, 543, 555, 556, 557, 558, 544, 545] (by decide +kernel) (by decide +kernel)
set_option maxRecDepth 20000 in
theorem gL_law_L_refused : GoodIn wsL_law (va_wsS RL 100 yL_refused wsL_refused) := goodIn_app (goodIn_of _ (by decide +kernel)) ggL_law_L_refused
set_option maxRecDepth 20000 in
theorem ggL_law_L_isTakenBack : GoodIn wsL_law wsL_isTakenBack := goodIn_r _ [535, 141, 142, 143, 2, 144, 17, 118, 119, 145, 146, 147, 29, 148, 21, 69, 149, 150, 151, 16, 152, 153, 154, 155, 156, 157, 158, 159, 36, 160, 161, 162, 163, 164, 165, 38, 166, 167, 168, 35, 169, 170, 171, 172, 173, 113, 43, 174, 175, 176, 177, 178, 179, 180, 181, 76, 77, 78, 182, 183, 184, 185, 186, 187, 188, 189, 190, 191, 192, 193, 103, 194, 195, 196, 197, 198, 199, 200, 201, 202, 203, 204, 205, 206, 207, 208, 209, 210, 211, 212, 213, 214, 215, 216, 217, 218, 102, 104, 219, 220, 221, 222, 223, 101, 224, 330, 331, 6, 332, 333, 318, 319, 320, 321, 322, 93, 94, 95, 96, 285, 89, 90, 91, 42, 92, 242, 243, 231, 232, 233, 234, 323, 324, 325, 326, 309, 235, 236, 237, 238, 239, 240, 241, 244, 245, 246, 247, 248, 249, 250, 251, 252, 253, 254, 255, 65, 66, 67, 68, 70, 71, 72, 20, 73, 74, 75, 51, 79, 80, 81, 82, 83, 84, 85, 86, 87, 88, 97, 98, 99, 100, 105, 106, 107, 108, 109, 110, 111, 112, 44, 45, 536, 537, 538, 539, 540, 541, 549, 550, 551, 552, 553, 554, 546, 547, 548, 542, 543] (by decide +kernel) (by decide +kernel)
set_option maxRecDepth 20000 in
theorem gL_law_L_isTakenBack : GoodIn wsL_law (va_wsS RL 159 yL_isTakenBack wsL_isTakenBack) := goodIn_app (goodIn_of _ (by decide +kernel)) ggL_law_L_isTakenBack
set_option maxRecDepth 20000 in
theorem ggL_law_X7_undo : GoodIn wsL_law wsX7_undo := goodIn_r _ [68, 21, 69, 17, 70, 71, 72, 20, 73, 74, 75, 76, 77, 78, 51, 79, 80, 81, 16, 82, 36, 83, 84, 85, 86, 87, 88, 89, 90, 35, 91, 42, 92, 93, 94, 95, 96, 97, 98, 99, 100, 38, 101, 102, 103, 104, 105, 106, 107, 108, 109, 110, 111, 112, 43, 113, 44, 45, 536, 537, 538, 539, 542, 543, 540, 541, 549, 550, 551, 552, 553, 554] (by decide +kernel) (by decide +kernel)
set_option maxRecDepth 20000 in
theorem gL_law_X7_undo : GoodIn wsL_law (wsV RL 97 RX7 yX7_undo wsX7_undo) := goodIn_app (goodIn_of _ (by decide +kernel)) ggL_law_X7_undo
theorem dL_law_0 : decode cL_law 0 = .ok (.invokestatic 142, 3) := by decide +kernel
theorem dL_law_3 : decode cL_law 3 = .ok (.ifCond .eq 15, 3) := by decide +kernel
theorem dL_law_6 : decode cL_law 6 = .ok (.invokestatic 146, 3) := by decide +kernel
theorem dL_law_9 : decode cL_law 9 = .ok (.ifCond .eq 9, 3) := by decide +kernel
theorem dL_law_12 : decode cL_law 12 = .ok (.invokestatic 149, 3) := by decide +kernel
theorem dL_law_15 : decode cL_law 15 = .ok (.ifCond .ne 5, 3) := by decide +kernel
theorem dL_law_18 : decode cL_law 18 = .ok (.iconst 0, 1) := by decide +kernel
theorem dL_law_19 : decode cL_law 19 = .ok (.ireturn, 1) := by decide +kernel
theorem dL_law_20 : decode cL_law 20 = .ok (.new 12, 3) := by decide +kernel
theorem dL_law_23 : decode cL_law 23 = .ok (.dup, 1) := by decide +kernel
theorem dL_law_24 : decode cL_law 24 = .ok (.invokespecial 96, 3) := by decide +kernel
theorem dL_law_27 : decode cL_law 27 = .ok (.astore_n 1, 1) := by decide +kernel
theorem dL_law_28 : decode cL_law 28 = .ok (.bipush 64, 2) := by decide +kernel
theorem dL_law_30 : decode cL_law 30 = .ok (.newarray .long, 2) := by decide +kernel
theorem dL_law_32 : decode cL_law 32 = .ok (.astore_n 2, 1) := by decide +kernel
theorem dL_law_33 : decode cL_law 33 = .ok (.iconst 0, 1) := by decide +kernel
theorem dL_law_34 : decode cL_law 34 = .ok (.istore_n 3, 1) := by decide +kernel
theorem dL_law_35 : decode cL_law 35 = .ok (.aload_n 1, 1) := by decide +kernel
theorem dL_law_36 : decode cL_law 36 = .ok (.bipush 7, 2) := by decide +kernel
theorem dL_law_38 : decode cL_law 38 = .ok (.bipush 7, 2) := by decide +kernel
theorem dL_law_40 : decode cL_law 40 = .ok (.invokevirtual 29, 3) := by decide +kernel
theorem dL_law_43 : decode cL_law 43 = .ok (.iconst 1, 1) := by decide +kernel
theorem dL_law_44 : decode cL_law 44 = .ok (.if_icmp .ne 12, 3) := by decide +kernel
theorem dL_law_47 : decode cL_law 47 = .ok (.aload_n 1, 1) := by decide +kernel
theorem dL_law_48 : decode cL_law 48 = .ok (.iconst 0, 1) := by decide +kernel
theorem dL_law_49 : decode cL_law 49 = .ok (.invokevirtual 72, 3) := by decide +kernel
theorem dL_law_52 : decode cL_law 52 = .ok (.iconst 1, 1) := by decide +kernel
theorem dL_law_53 : decode cL_law 53 = .ok (.if_icmp .eq 5, 3) := by decide +kernel
theorem dL_law_56 : decode cL_law 56 = .ok (.iconst 0, 1) := by decide +kernel
theorem dL_law_57 : decode cL_law 57 = .ok (.ireturn, 1) := by decide +kernel
theorem dL_law_58 : decode cL_law 58 = .ok (.aload_n 1, 1) := by decide +kernel
theorem dL_law_59 : decode cL_law 59 = .ok (.invokestatic 88, 3) := by decide +kernel
theorem dL_law_62 : decode cL_law 62 = .ok (.lstore 4, 2) := by decide +kernel
theorem dL_law_64 : decode cL_law 64 = .ok (.iconst 0, 1) := by decide +kernel
theorem dL_law_65 : decode cL_law 65 = .ok (.istore 6, 2) := by decide +kernel
theorem dL_law_67 : decode cL_law 67 = .ok (.iload 6, 2) := by decide +kernel
theorem dL_law_69 : decode cL_law 69 = .ok (.bipush 22, 2) := by decide +kernel
theorem dL_law_71 : decode cL_law 71 = .ok (.if_icmp .ge 263, 3) := by decide +kernel
theorem dL_law_74 : decode cL_law 74 = .ok (.aload_n 0, 1) := by decide +kernel
theorem dL_law_75 : decode cL_law 75 = .ok (.iload 6, 2) := by decide +kernel
theorem dL_law_77 : decode cL_law 77 = .ok (.invokestatic 152, 3) := by decide +kernel
theorem dL_law_80 : decode cL_law 80 = .ok (.istore 7, 2) := by decide +kernel
theorem dL_law_82 : decode cL_law 82 = .ok (.iload 6, 2) := by decide +kernel
theorem dL_law_84 : decode cL_law 84 = .ok (.iconst 4, 1) := by decide +kernel
theorem dL_law_85 : decode cL_law 85 = .ok (.if_icmp .ge 7, 3) := by decide +kernel
theorem dL_law_88 : decode cL_law 88 = .ok (.iconst 0, 1) := by decide +kernel
theorem dL_law_89 : decode cL_law 89 = .ok (.goto 10, 3) := by decide +kernel
theorem dL_law_92 : decode cL_law 92 = .ok (.iload 7, 2) := by decide +kernel
theorem dL_law_94 : decode cL_law 94 = .ok (.bipush 9, 2) := by decide +kernel
theorem dL_law_96 : decode cL_law 96 = .ok (.invokestatic 156, 3) := by decide +kernel
theorem dL_law_99 : decode cL_law 99 = .ok (.istore 8, 2) := by decide +kernel
theorem dL_law_101 : decode cL_law 101 = .ok (.aload_n 2, 1) := by decide +kernel
theorem dL_law_102 : decode cL_law 102 = .ok (.iload_n 3, 1) := by decide +kernel
theorem dL_law_103 : decode cL_law 103 = .ok (.aload_n 1, 1) := by decide +kernel
theorem dL_law_104 : decode cL_law 104 = .ok (.invokestatic 88, 3) := by decide +kernel
theorem dL_law_107 : decode cL_law 107 = .ok (.lastore, 1) := by decide +kernel
theorem dL_law_108 : decode cL_law 108 = .ok (.aload_n 1, 1) := by decide +kernel
theorem dL_law_109 : decode cL_law 109 = .ok (.bipush 10, 2) := by decide +kernel
theorem dL_law_111 : decode cL_law 111 = .ok (.invokevirtual 11, 3) := by decide +kernel
theorem dL_law_114 : decode cL_law 114 = .ok (.istore 9, 2) := by decide +kernel
theorem dL_law_116 : decode cL_law 116 = .ok (.iload 7, 2) := by decide +kernel
theorem dL_law_118 : decode cL_law 118 = .ok (.iconst 4, 1) := by decide +kernel
theorem dL_law_119 : decode cL_law 119 = .ok (.ishr, 1) := by decide +kernel
theorem dL_law_120 : decode cL_law 120 = .ok (.bipush 12, 2) := by decide +kernel
theorem dL_law_122 : decode cL_law 122 = .ok (.invokestatic 156, 3) := by decide +kernel
theorem dL_law_125 : decode cL_law 125 = .ok (.istore 10, 2) := by decide +kernel
theorem dL_law_127 : decode cL_law 127 = .ok (.iload 7, 2) := by decide +kernel
theorem dL_law_129 : decode cL_law 129 = .ok (.bipush 8, 2) := by decide +kernel
theorem dL_law_131 : decode cL_law 131 = .ok (.ishr, 1) := by decide +kernel
theorem dL_law_132 : decode cL_law 132 = .ok (.bipush 12, 2) := by decide +kernel
theorem dL_law_134 : decode cL_law 134 = .ok (.invokestatic 156, 3) := by decide +kernel
theorem dL_law_137 : decode cL_law 137 = .ok (.istore 11, 2) := by decide +kernel
theorem dL_law_139 : decode cL_law 139 = .ok (.iload 8, 2) := by decide +kernel
theorem dL_law_141 : decode cL_law 141 = .ok (.iconst 4, 1) := by decide +kernel
theorem dL_law_142 : decode cL_law 142 = .ok (.if_icmp .ge 14, 3) := by decide +kernel
theorem dL_law_145 : decode cL_law 145 = .ok (.aload_n 1, 1) := by decide +kernel
theorem dL_law_146 : decode cL_law 146 = .ok (.iload 10, 2) := by decide +kernel
theorem dL_law_148 : decode cL_law 148 = .ok (.iload 11, 2) := by decide +kernel
theorem dL_law_150 : decode cL_law 150 = .ok (.invokevirtual 29, 3) := by decide +kernel
theorem dL_law_153 : decode cL_law 153 = .ok (.goto 131, 3) := by decide +kernel
theorem dL_law_156 : decode cL_law 156 = .ok (.iload 8, 2) := by decide +kernel
theorem dL_law_158 : decode cL_law 158 = .ok (.iconst 4, 1) := by decide +kernel
theorem dL_law_159 : decode cL_law 159 = .ok (.if_icmp .ne 21, 3) := by decide +kernel
theorem dL_law_162 : decode cL_law 162 = .ok (.aload_n 1, 1) := by decide +kernel
theorem dL_law_163 : decode cL_law 163 = .ok (.iconst 0, 1) := by decide +kernel
theorem dL_law_164 : decode cL_law 164 = .ok (.invokevirtual 11, 3) := by decide +kernel
theorem dL_law_167 : decode cL_law 167 = .ok (.iconst 1, 1) := by decide +kernel
theorem dL_law_168 : decode cL_law 168 = .ok (.if_icmp .le 12, 3) := by decide +kernel
theorem dL_law_171 : decode cL_law 171 = .ok (.aload_n 1, 1) := by decide +kernel
theorem dL_law_172 : decode cL_law 172 = .ok (.iload 10, 2) := by decide +kernel
theorem dL_law_174 : decode cL_law 174 = .ok (.invokevirtual 32, 3) := by decide +kernel
theorem dL_law_177 : decode cL_law 177 = .ok (.goto 107, 3) := by decide +kernel
theorem dL_law_180 : decode cL_law 180 = .ok (.iload 8, 2) := by decide +kernel
theorem dL_law_182 : decode cL_law 182 = .ok (.bipush 6, 2) := by decide +kernel
theorem dL_law_184 : decode cL_law 184 = .ok (.if_icmp .ge 16, 3) := by decide +kernel
theorem dL_law_187 : decode cL_law 187 = .ok (.aload_n 1, 1) := by decide +kernel
theorem dL_law_188 : decode cL_law 188 = .ok (.iload 10, 2) := by decide +kernel
theorem dL_law_190 : decode cL_law 190 = .ok (.iload 11, 2) := by decide +kernel
theorem dL_law_192 : decode cL_law 192 = .ok (.iload 11, 2) := by decide +kernel
theorem dL_law_194 : decode cL_law 194 = .ok (.invokevirtual 35, 3) := by decide +kernel
theorem dL_law_197 : decode cL_law 197 = .ok (.goto 87, 3) := by decide +kernel
theorem dL_law_200 : decode cL_law 200 = .ok (.iload 8, 2) := by decide +kernel
theorem dL_law_202 : decode cL_law 202 = .ok (.bipush 6, 2) := by decide +kernel
theorem dL_law_204 : decode cL_law 204 = .ok (.if_icmp .ne 36, 3) := by decide +kernel
theorem dL_law_207 : decode cL_law 207 = .ok (.aload_n 1, 1) := by decide +kernel
theorem dL_law_208 : decode cL_law 208 = .ok (.iload 7, 2) := by decide +kernel
theorem dL_law_210 : decode cL_law 210 = .ok (.iconst 4, 1) := by decide +kernel
theorem dL_law_211 : decode cL_law 211 = .ok (.ishr, 1) := by decide +kernel
theorem dL_law_212 : decode cL_law 212 = .ok (.bipush 24, 2) := by decide +kernel
theorem dL_law_214 : decode cL_law 214 = .ok (.invokestatic 156, 3) := by decide +kernel
theorem dL_law_217 : decode cL_law 217 = .ok (.iload 7, 2) := by decide +kernel
theorem dL_law_219 : decode cL_law 219 = .ok (.bipush 10, 2) := by decide +kernel
theorem dL_law_221 : decode cL_law 221 = .ok (.ishr, 1) := by decide +kernel
theorem dL_law_222 : decode cL_law 222 = .ok (.iconst 2, 1) := by decide +kernel
theorem dL_law_223 : decode cL_law 223 = .ok (.invokestatic 156, 3) := by decide +kernel
theorem dL_law_226 : decode cL_law 226 = .ok (.ifCond .ne 7, 3) := by decide +kernel
theorem dL_law_229 : decode cL_law 229 = .ok (.iconst 1, 1) := by decide +kernel
theorem dL_law_230 : decode cL_law 230 = .ok (.goto 4, 3) := by decide +kernel
theorem dL_law_233 : decode cL_law 233 = .ok (.iconst 0, 1) := by decide +kernel
theorem dL_law_234 : decode cL_law 234 = .ok (.invokevirtual 39, 3) := by decide +kernel
theorem dL_law_237 : decode cL_law 237 = .ok (.goto 47, 3) := by decide +kernel
theorem dL_law_240 : decode cL_law 240 = .ok (.iload 8, 2) := by decide +kernel
theorem dL_law_242 : decode cL_law 242 = .ok (.bipush 7, 2) := by decide +kernel
theorem dL_law_244 : decode cL_law 244 = .ok (.if_icmp .ne 28, 3) := by decide +kernel
theorem dL_law_247 : decode cL_law 247 = .ok (.aload_n 1, 1) := by decide +kernel
theorem dL_law_248 : decode cL_law 248 = .ok (.iload 7, 2) := by decide +kernel
theorem dL_law_250 : decode cL_law 250 = .ok (.iconst 4, 1) := by decide +kernel
theorem dL_law_251 : decode cL_law 251 = .ok (.ishr, 1) := by decide +kernel
theorem dL_law_252 : decode cL_law 252 = .ok (.iconst 3, 1) := by decide +kernel
theorem dL_law_253 : decode cL_law 253 = .ok (.invokestatic 156, 3) := by decide +kernel
theorem dL_law_256 : decode cL_law 256 = .ok (.iload 7, 2) := by decide +kernel
theorem dL_law_258 : decode cL_law 258 = .ok (.bipush 6, 2) := by decide +kernel
theorem dL_law_260 : decode cL_law 260 = .ok (.ishr, 1) := by decide +kernel
theorem dL_law_261 : decode cL_law 261 = .ok (.bipush 7, 2) := by decide +kernel
theorem dL_law_263 : decode cL_law 263 = .ok (.invokestatic 156, 3) := by decide +kernel
theorem dL_law_266 : decode cL_law 266 = .ok (.invokevirtual 24, 3) := by decide +kernel
theorem dL_law_269 : decode cL_law 269 = .ok (.goto 15, 3) := by decide +kernel
theorem dL_law_272 : decode cL_law 272 = .ok (.aload_n 1, 1) := by decide +kernel
theorem dL_law_273 : decode cL_law 273 = .ok (.iload 7, 2) := by decide +kernel
theorem dL_law_275 : decode cL_law 275 = .ok (.iconst 4, 1) := by decide +kernel
theorem dL_law_276 : decode cL_law 276 = .ok (.ishr, 1) := by decide +kernel
theorem dL_law_277 : decode cL_law 277 = .ok (.iconst 2, 1) := by decide +kernel
theorem dL_law_278 : decode cL_law 278 = .ok (.invokestatic 156, 3) := by decide +kernel
theorem dL_law_281 : decode cL_law 281 = .ok (.invokevirtual 75, 3) := by decide +kernel
theorem dL_law_284 : decode cL_law 284 = .ok (.istore 12, 2) := by decide +kernel
theorem dL_law_286 : decode cL_law 286 = .ok (.iload 12, 2) := by decide +kernel
theorem dL_law_288 : decode cL_law 288 = .ok (.ifCond .ge 27, 3) := by decide +kernel
theorem dL_law_291 : decode cL_law 291 = .ok (.aload_n 1, 1) := by decide +kernel
theorem dL_law_292 : decode cL_law 292 = .ok (.bipush 10, 2) := by decide +kernel
theorem dL_law_294 : decode cL_law 294 = .ok (.invokevirtual 11, 3) := by decide +kernel
theorem dL_law_297 : decode cL_law 297 = .ok (.iload 9, 2) := by decide +kernel
theorem dL_law_299 : decode cL_law 299 = .ok (.if_icmp .ne 14, 3) := by decide +kernel
theorem dL_law_302 : decode cL_law 302 = .ok (.aload_n 1, 1) := by decide +kernel
theorem dL_law_303 : decode cL_law 303 = .ok (.invokestatic 88, 3) := by decide +kernel
theorem dL_law_306 : decode cL_law 306 = .ok (.aload_n 2, 1) := by decide +kernel
theorem dL_law_307 : decode cL_law 307 = .ok (.iload_n 3, 1) := by decide +kernel
theorem dL_law_308 : decode cL_law 308 = .ok (.laload, 1) := by decide +kernel
theorem dL_law_309 : decode cL_law 309 = .ok (.lcmp, 1) := by decide +kernel
theorem dL_law_310 : decode cL_law 310 = .ok (.ifCond .eq 5, 3) := by decide +kernel
theorem dL_law_313 : decode cL_law 313 = .ok (.iconst 0, 1) := by decide +kernel
theorem dL_law_314 : decode cL_law 314 = .ok (.ireturn, 1) := by decide +kernel
theorem dL_law_315 : decode cL_law 315 = .ok (.iload_n 3, 1) := by decide +kernel
theorem dL_law_316 : decode cL_law 316 = .ok (.iload 12, 2) := by decide +kernel
theorem dL_law_318 : decode cL_law 318 = .ok (.ifCond .ge 7, 3) := by decide +kernel
theorem dL_law_321 : decode cL_law 321 = .ok (.iconst 0, 1) := by decide +kernel
theorem dL_law_322 : decode cL_law 322 = .ok (.goto 4, 3) := by decide +kernel
theorem dL_law_325 : decode cL_law 325 = .ok (.iconst 1, 1) := by decide +kernel
theorem dL_law_326 : decode cL_law 326 = .ok (.iadd, 1) := by decide +kernel
theorem dL_law_327 : decode cL_law 327 = .ok (.istore_n 3, 1) := by decide +kernel
theorem dL_law_328 : decode cL_law 328 = .ok (.iinc 6 1, 3) := by decide +kernel
theorem dL_law_331 : decode cL_law 331 = .ok (.goto (-264), 3) := by decide +kernel
theorem dL_law_334 : decode cL_law 334 = .ok (.aload_n 2, 1) := by decide +kernel
theorem dL_law_335 : decode cL_law 335 = .ok (.iload_n 3, 1) := by decide +kernel
theorem dL_law_336 : decode cL_law 336 = .ok (.aload_n 1, 1) := by decide +kernel
theorem dL_law_337 : decode cL_law 337 = .ok (.invokestatic 88, 3) := by decide +kernel
theorem dL_law_340 : decode cL_law 340 = .ok (.lastore, 1) := by decide +kernel
theorem dL_law_341 : decode cL_law 341 = .ok (.aload_n 1, 1) := by decide +kernel
theorem dL_law_342 : decode cL_law 342 = .ok (.invokestatic 100, 3) := by decide +kernel
theorem dL_law_345 : decode cL_law 345 = .ok (.ifCond .eq 54, 3) := by decide +kernel
theorem dL_law_348 : decode cL_law 348 = .ok (.aload_n 1, 1) := by decide +kernel
theorem dL_law_349 : decode cL_law 349 = .ok (.aload_n 2, 1) := by decide +kernel
theorem dL_law_350 : decode cL_law 350 = .ok (.iload_n 3, 1) := by decide +kernel
theorem dL_law_351 : decode cL_law 351 = .ok (.invokestatic 159, 3) := by decide +kernel
theorem dL_law_354 : decode cL_law 354 = .ok (.ifCond .eq 45, 3) := by decide +kernel
theorem dL_law_357 : decode cL_law 357 = .ok (.aload_n 1, 1) := by decide +kernel
theorem dL_law_358 : decode cL_law 358 = .ok (.invokevirtual 97, 3) := by decide +kernel
theorem dL_law_361 : decode cL_law 361 = .ok (.bipush (-5), 2) := by decide +kernel
theorem dL_law_363 : decode cL_law 363 = .ok (.if_icmp .ne 36, 3) := by decide +kernel
theorem dL_law_366 : decode cL_law 366 = .ok (.aload_n 1, 1) := by decide +kernel
theorem dL_law_367 : decode cL_law 367 = .ok (.iconst 0, 1) := by decide +kernel
theorem dL_law_368 : decode cL_law 368 = .ok (.invokevirtual 75, 3) := by decide +kernel
theorem dL_law_371 : decode cL_law 371 = .ok (.iconst 1, 1) := by decide +kernel
theorem dL_law_372 : decode cL_law 372 = .ok (.if_icmp .ne 27, 3) := by decide +kernel
theorem dL_law_375 : decode cL_law 375 = .ok (.aload_n 1, 1) := by decide +kernel
theorem dL_law_376 : decode cL_law 376 = .ok (.invokestatic 88, 3) := by decide +kernel
theorem dL_law_379 : decode cL_law 379 = .ok (.lload 4, 2) := by decide +kernel
theorem dL_law_381 : decode cL_law 381 = .ok (.lcmp, 1) := by decide +kernel
theorem dL_law_382 : decode cL_law 382 = .ok (.ifCond .ne 17, 3) := by decide +kernel
theorem dL_law_385 : decode cL_law 385 = .ok (.aload_n 1, 1) := by decide +kernel
theorem dL_law_386 : decode cL_law 386 = .ok (.bipush 10, 2) := by decide +kernel
theorem dL_law_388 : decode cL_law 388 = .ok (.invokevirtual 11, 3) := by decide +kernel
theorem dL_law_391 : decode cL_law 391 = .ok (.iconst 1, 1) := by decide +kernel
theorem dL_law_392 : decode cL_law 392 = .ok (.if_icmp .ne 7, 3) := by decide +kernel
theorem dL_law_395 : decode cL_law 395 = .ok (.iconst 1, 1) := by decide +kernel
theorem dL_law_396 : decode cL_law 396 = .ok (.goto 4, 3) := by decide +kernel
theorem dL_law_399 : decode cL_law 399 = .ok (.iconst 0, 1) := by decide +kernel
theorem dL_law_400 : decode cL_law 400 = .ok (.ireturn, 1) := by decide +kernel
set_option maxRecDepth 20000 in
theorem ggL_isTakenBack_X7_count : GoodIn wsL_isTakenBack wsX7_count := goodIn_r _ [5, 6, 7, 8, 9, 10, 11, 12, 13, 14, 15, 16, 17, 18, 19, 20, 21, 22, 23, 24, 25, 26, 27, 28, 29, 30, 31, 32, 33, 34, 35, 36, 37, 38, 39, 40, 41, 42, 43, 44, 45, 46, 47, 48, 49, 50, 51, 52, 53, 54, 55, 56, 57, 58, 59, 60, 61, 62, 63, 64, 65, 66, 67, 68, 69, 70, 71, 72, 73, 74, 75, 76, 77, 78, 79, 80, 81, 82, 83, 84, 85, 86, 87, 88, 89, 90, 91, 92, 93, 94, 95, 96, 97, 98, 99, 100, 101, 102, 103, 104, 191, 192, 193, 194, 195, 196, 197, 198, 199, 200, 201, 202, 203, 204, 205, 206, 207] (by decide +kernel) (by decide +kernel)
set_option maxRecDepth 20000 in
theorem gL_isTakenBack_X7_count : GoodIn wsL_isTakenBack (wsV RL 11 RX7 yX7_count wsX7_count) := goodIn_app (goodIn_of _ (by decide +kernel)) ggL_isTakenBack_X7_count
set_option maxRecDepth 20000 in
theorem ggL_isTakenBack_L_seen : GoodIn wsL_isTakenBack wsL_seen := goodIn_r _ [108, 109, 1, 2, 3, 4, 5, 6, 7, 8, 9, 10, 11, 12, 13, 14, 15, 16, 17, 18, 19, 20, 21, 22, 23, 24, 25, 26, 27, 28, 29, 30, 31, 32, 33, 34, 35, 36, 37, 38, 39, 40, 41, 42, 43, 44, 45, 46, 47, 48, 49, 50, 51, 52, 53, 54, 55, 56, 57, 58, 59, 60, 61, 62, 63, 64, 65, 66, 67, 68, 69, 70, 71, 72, 73, 74, 75, 76, 77, 78, 79, 80, 81, 82, 83, 84, 85, 86, 87, 88, 89, 90, 91, 92, 93, 94, 95, 96, 97, 98, 99, 100, 101, 102, 103, 104, 110, 111, 112, 113, 114, 115, 116, 117, 118, 119, 120, 121, 122, 123, 124, 125, 126, 127, 128, 129, 130, 131, 132, 133, 134, 135, 136, 137, 138, 139, 140, 141, 142, 143, 144, 145, 146, 147, 148, 149, 150, 151, 152, 153, 154, 191, 192, 193, 194, 195, 196, 197, 198, 199, 200, 201, 202, 203, 204, 205, 206, 207] (by decide +kernel) (by decide +kernel)
set_option maxRecDepth 20000 in
theorem gL_isTakenBack_L_seen : GoodIn wsL_isTakenBack (va_wsS RL 88 yL_seen wsL_seen) := goodIn_app (goodIn_of _ (by decide +kernel)) ggL_isTakenBack_L_seen
set_option maxRecDepth 20000 in
theorem ggL_isTakenBack_X7_undo : GoodIn wsL_isTakenBack wsX7_undo := goodIn_r _ [158, 14, 15, 6, 159, 160, 161, 162, 163, 164, 165, 55, 56, 57, 166, 167, 168, 169, 19, 170, 28, 171, 172, 173, 174, 175, 176, 120, 121, 39, 122, 123, 124, 115, 116, 117, 118, 177, 178, 179, 180, 35, 103, 96, 70, 97, 181, 182, 183, 184, 185, 186, 187, 188, 46, 45, 189, 190, 191, 192, 193, 194, 206, 207, 195, 196, 197, 198, 199, 200, 201, 202] (by decide +kernel) (by decide +kernel)
set_option maxRecDepth 20000 in
theorem gL_isTakenBack_X7_undo : GoodIn wsL_isTakenBack (wsV RL 97 RX7 yX7_undo wsX7_undo) := goodIn_app (goodIn_of _ (by decide +kernel)) ggL_isTakenBack_X7_undo
theorem dL_isTakenBack_0 : decode cL_isTakenBack 0 = .ok (.iconst 0, 1) := by decide +kernel
theorem dL_isTakenBack_1 : decode cL_isTakenBack 1 = .ok (.istore_n 3, 1) := by decide +kernel
theorem dL_isTakenBack_2 : decode cL_isTakenBack 2 = .ok (.aload_n 0, 1) := by decide +kernel
theorem dL_isTakenBack_3 : decode cL_isTakenBack 3 = .ok (.bipush 10, 2) := by decide +kernel
theorem dL_isTakenBack_5 : decode cL_isTakenBack 5 = .ok (.invokevirtual 11, 3) := by decide +kernel
theorem dL_isTakenBack_8 : decode cL_isTakenBack 8 = .ok (.ifCond .le 53, 3) := by decide +kernel
theorem dL_isTakenBack_11 : decode cL_isTakenBack 11 = .ok (.iload_n 3, 1) := by decide +kernel
theorem dL_isTakenBack_12 : decode cL_isTakenBack 12 = .ok (.iload_n 2, 1) := by decide +kernel
theorem dL_isTakenBack_13 : decode cL_isTakenBack 13 = .ok (.if_icmp .ge 48, 3) := by decide +kernel
theorem dL_isTakenBack_16 : decode cL_isTakenBack 16 = .ok (.aload_n 0, 1) := by decide +kernel
theorem dL_isTakenBack_17 : decode cL_isTakenBack 17 = .ok (.bipush 10, 2) := by decide +kernel
theorem dL_isTakenBack_19 : decode cL_isTakenBack 19 = .ok (.invokevirtual 11, 3) := by decide +kernel
theorem dL_isTakenBack_22 : decode cL_isTakenBack 22 = .ok (.istore 4, 2) := by decide +kernel
theorem dL_isTakenBack_24 : decode cL_isTakenBack 24 = .ok (.iload_n 3, 1) := by decide +kernel
theorem dL_isTakenBack_25 : decode cL_isTakenBack 25 = .ok (.iconst 5, 1) := by decide +kernel
