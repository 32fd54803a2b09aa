theorem dL_texts_470 : decode cL_texts 470 = .ok (.ldc2_w 84, 3) := by decide +kernel
theorem dL_texts_473 : decode cL_texts 473 = .ok (.invokevirtual 80, 3) := by decide +kernel
theorem dL_texts_476 : decode cL_texts 476 = .ok (.bipush (-2), 2) := by decide +kernel
theorem dL_texts_478 : decode cL_texts 478 = .ok (.if_icmp .ne 34, 3) := by decide +kernel
theorem dL_texts_481 : decode cL_texts 481 = .ok (.aload_n 0, 1) := by decide +kernel
theorem dL_texts_482 : decode cL_texts 482 = .ok (.invokevirtual 104, 3) := by decide +kernel
theorem dL_texts_485 : decode cL_texts 485 = .ok (.bipush 80, 2) := by decide +kernel
theorem dL_texts_487 : decode cL_texts 487 = .ok (.if_icmp .ne 25, 3) := by decide +kernel
theorem dL_texts_490 : decode cL_texts 490 = .ok (.aload_n 0, 1) := by decide +kernel
theorem dL_texts_491 : decode cL_texts 491 = .ok (.invokevirtual 43, 3) := by decide +kernel
theorem dL_texts_494 : decode cL_texts 494 = .ok (.bipush (-3), 2) := by decide +kernel
theorem dL_texts_496 : decode cL_texts 496 = .ok (.if_icmp .ne 16, 3) := by decide +kernel
theorem dL_texts_499 : decode cL_texts 499 = .ok (.aload_n 0, 1) := by decide +kernel
theorem dL_texts_500 : decode cL_texts 500 = .ok (.invokevirtual 109, 3) := by decide +kernel
theorem dL_texts_503 : decode cL_texts 503 = .ok (.bipush 80, 2) := by decide +kernel
theorem dL_texts_505 : decode cL_texts 505 = .ok (.if_icmp .ne 7, 3) := by decide +kernel
theorem dL_texts_508 : decode cL_texts 508 = .ok (.iconst 1, 1) := by decide +kernel
theorem dL_texts_509 : decode cL_texts 509 = .ok (.goto 4, 3) := by decide +kernel
theorem dL_texts_512 : decode cL_texts 512 = .ok (.iconst 0, 1) := by decide +kernel
theorem dL_texts_513 : decode cL_texts 513 = .ok (.ireturn, 1) := by decide +kernel
set_option maxRecDepth 20000 in
theorem ggL_law_L_corner_0 : GoodIn wsL_law wsL_corner_r1 := goodIn_r wsL_corner_r1 [0, 1, 2, 8, 9, 10, 11, 12, 13, 14, 15, 16, 17, 18, 19, 20, 21, 22, 23, 24, 25, 26, 27, 28] (by decide +kernel) (by decide +kernel)
set_option maxRecDepth 20000 in
theorem ggL_law_L_corner_2 : GoodIn wsL_law wsL_corner_r2 := goodIn_r wsL_corner_r2 [29, 30, 31, 32, 33, 34, 35, 36, 37, 38, 39, 40, 41, 42, 43, 44, 45, 46, 47, 48, 49, 50, 51, 52] (by decide +kernel) (by decide +kernel)
set_option maxRecDepth 20000 in
theorem ggL_law_L_corner_4 : GoodIn wsL_law wsL_corner_r3 := goodIn_r wsL_corner_r3 [53, 54, 55, 56, 57, 58, 59, 60, 61, 62, 63, 64, 65, 66, 67, 68, 69, 70, 71, 72, 73, 74, 75, 76] (by decide +kernel) (by decide +kernel)
set_option maxRecDepth 20000 in
theorem ggL_law_L_corner_6 : GoodIn wsL_law wsL_corner_r4 := goodIn_r wsL_corner_r4 [77, 78, 79, 80, 81, 82, 83, 84, 85, 86, 87, 88, 89, 90, 91, 92, 93, 94, 95, 96, 97, 98, 99, 100] (by decide +kernel) (by decide +kernel)
set_option maxRecDepth 20000 in
theorem ggL_law_L_corner_8 : GoodIn wsL_law wsL_corner_r5 := goodIn_r wsL_corner_r5 [101, 102, 103, 104, 105, 106, 107, 108, 109, 110, 111, 112, 113, 114, 115, 116, 117, 118, 119, 120, 121, 122, 123, 124] (by decide +kernel) (by decide +kernel)
set_option maxRecDepth 20000 in
theorem ggL_law_L_corner_10 : GoodIn wsL_law wsL_corner_r6 := goodIn_r wsL_corner_r6 [125, 126, 127, 128, 129, 130, 131, 132, 133, 134, 135, 136, 137, 138, 139, 140, 141, 142, 143, 144, 145, 146, 147, 148] (by decide +kernel) (by decide +kernel)
set_option maxRecDepth 20000 in
theorem ggL_law_L_corner_12 : GoodIn wsL_law wsL_corner_r7 := goodIn_r wsL_corner_r7 [149, 150, 151, 152, 153, 154, 155, 156, 157, 158, 159, 160, 161, 162, 163, 164, 165, 166, 167, 168, 169, 170, 171, 172] (by decide +kernel) (by decide +kernel)
set_option maxRecDepth 20000 in
theorem ggL_law_L_corner_14 : GoodIn wsL_law wsL_corner_r8 := goodIn_r wsL_corner_r8 [173, 174, 175, 176, 177, 178, 179, 180, 181, 182, 183, 184, 185, 186, 187, 188, 189, 190, 191, 192, 193, 194, 195, 196] (by decide +kernel) (by decide +kernel)
set_option maxRecDepth 20000 in
theorem ggL_law_L_corner_16 : GoodIn wsL_law wsL_corner_r9 := goodIn_r wsL_corner_r9 [197, 198, 199, 200, 201, 202, 203, 204, 205, 206, 207, 208, 209, 210, 211, 212, 213, 214, 215, 216, 217, 218, 219, 220] (by decide +kernel) (by decide +kernel)
set_option maxRecDepth 20000 in
theorem ggL_law_L_corner_18 : GoodIn wsL_law wsL_corner_r10 := goodIn_r wsL_corner_r10 [221, 222, 223, 224, 225, 226, 227, 228, 229, 230, 231, 232, 233, 234, 235, 236, 237, 238, 239, 240, 241, 242, 243, 244] (by decide +kernel) (by decide +kernel)
set_option maxRecDepth 20000 in
theorem ggL_law_L_corner_20 : GoodIn wsL_law wsL_corner_r11 := goodIn_r wsL_corner_r11 [245, 246, 247, 248, 249, 250, 251, 252, 253, 254, 255, 256, 257, 258, 259, 260, 261, 262, 263, 264, 265, 266, 267, 268] (by decide +kernel) (by decide +kernel)
set_option maxRecDepth 20000 in
theorem ggL_law_L_corner_22 : GoodIn wsL_law wsL_corner_r12 := goodIn_r wsL_corner_r12 [269, 270, 271, 272, 273, 274, 275, 276, 277, 278, 279, 280, 281, 282, 283, 284, 285, 286, 287, 288, 289, 290, 291, 292] (by decide +kernel) (by decide +kernel)
set_option maxRecDepth 20000 in
theorem ggL_law_L_corner_24 : GoodIn wsL_law wsL_corner_r13 := goodIn_r wsL_corner_r13 [293, 294, 295, 296, 297, 298, 299, 300, 301, 302, 303, 304, 305, 306, 307, 308, 309, 310, 311, 312, 313, 314, 315, 316] (by decide +kernel) (by decide +kernel)
set_option maxRecDepth 20000 in
theorem ggL_law_L_corner_26 : GoodIn wsL_law wsL_corner_r14 := goodIn_p wsL_corner_r14 [317, 321, 326, 329, 332, 336] (by rfl) (by decide +kernel)
set_option maxRecDepth 20000 in
theorem ggL_law_L_corner_28 : GoodIn wsL_law wsL_corner_r15 := goodIn_r wsL_corner_r15 [340, 341, 342, 343, 344, 345, 346, 347, 348, 349, 350, 351, 352, 353, 354, 355, 356, 357, 358, 359, 360, 361, 362, 363] (by decide +kernel) (by decide +kernel)
set_option maxRecDepth 20000 in
theorem ggL_law_L_corner_30 : GoodIn wsL_law wsL_corner_r16 := goodIn_r wsL_corner_r16 [364, 365, 366, 367, 368, 369, 370, 371, 372, 373, 374, 375, 376, 377, 378, 379, 380, 381, 382, 383, 384, 385, 386, 387] (by decide +kernel) (by decide +kernel)
set_option maxRecDepth 20000 in
theorem ggL_law_L_corner_32 : GoodIn wsL_law wsL_corner_r17 := goodIn_r wsL_corner_r17 [388, 389, 390, 391, 392, 393, 394, 395, 396, 397, 398, 399, 400, 401, 402, 403, 404, 405, 406, 407, 408, 409, 410, 411] (by decide +kernel) (by decide +kernel)
set_option maxRecDepth 20000 in
theorem ggL_law_L_corner_34 : GoodIn wsL_law wsL_corner_r18 := goodIn_r wsL_corner_r18 [412, 413, 414, 415, 416, 417, 418, 419, 420, 421, 422, 423, 424, 425, 426, 427, 428, 429, 430, 431, 432, 433, 434, 435] (by decide +kernel) (by decide +kernel)
set_option maxRecDepth 20000 in
theorem ggL_law_L_corner_36 : GoodIn wsL_law wsL_corner_r19 := goodIn_r wsL_corner_r19 [436, 437, 438, 439, 440, 441, 442, 443, 444, 445, 446, 447, 448, 449, 450, 451, 452, 453, 454, 455, 456, 457, 458, 459] (by decide +kernel) (by decide +kernel)
set_option maxRecDepth 20000 in
theorem ggL_law_L_corner_38 : GoodIn wsL_law wsL_corner_r20 := goodIn_r wsL_corner_r20 [460, 461, 462, 463, 464, 465, 466, 467, 468, 469, 470, 471, 472, 473, 474, 475, 476, 477, 478, 479, 480, 481, 482, 483] (by decide +kernel) (by decide +kernel)
set_option maxRecDepth 20000 in
theorem ggL_law_L_corner_40 : GoodIn wsL_law wsL_corner_r21 := goodIn_r wsL_corner_r21 [484, 485, 486, 487, 488, 489, 490, 491, 492, 493, 494] (by decide +kernel) (by decide +kernel)
set_option maxRecDepth 20000 in
theorem ggL_law_L_corner_42 : GoodIn wsL_law wsX70 := goodIn_r wsX70 [536, 537, 538, 539] (by decide +kernel) (by decide +kernel)
set_option maxRecDepth 20000 in
theorem ggL_law_L_corner_44 : GoodIn wsL_law wsX50 := goodIn_r wsX50 [540, 541] (by decide +kernel) (by decide +kernel)
set_option maxRecDepth 20000 in
theorem ggL_law_L_corner_46 : GoodIn wsL_law wsX00 := goodIn_r wsX00 [542, 543] (by decide +kernel) (by decide +kernel)
set_option maxRecDepth 20000 in
theorem ggL_law_L_corner_48 : GoodIn wsL_law wsX40 := goodIn_r wsX40 [544, 545] (by decide +kernel) (by decide +kernel)
set_option maxRecDepth 20000 in
theorem ggL_law_L_corner_50 : GoodIn wsL_law wsX20 := goodIn_r wsX20 [546, 547, 548] (by decide +kernel) (by decide +kernel)
set_option maxRecDepth 20000 in
theorem ggL_law_L_corner_52 : GoodIn wsL_law wsX30 := goodIn_r wsX30 [549, 550, 551, 552, 553, 554] (by decide +kernel) (by decide +kernel)
set_option maxRecDepth 20000 in
theorem ggL_law_L_corner_54 : GoodIn wsL_law wsX60 := goodIn_r wsX60 [555, 556, 557, 558] (by decide +kernel) (by decide +kernel)
theorem ggL_law_L_corner : GoodIn wsL_law wsL_corner := goodIn_app (b := ((wsL_corner_r1 ++ (wsL_corner_r2 ++ (wsL_corner_r3 ++ (wsL_corner_r4 ++ (wsL_corner_r5 ++ (wsL_corner_r6 ++ (wsL_corner_r7 ++ (wsL_corner_r8 ++ (wsL_corner_r9 ++ (wsL_corner_r10 ++ (wsL_corner_r11 ++ (wsL_corner_r12 ++ (wsL_corner_r13 ++ (wsL_corner_r14 ++ (wsL_corner_r15 ++ (wsL_corner_r16 ++ (wsL_corner_r17 ++ (wsL_corner_r18 ++ (wsL_corner_r19 ++ (wsL_corner_r20 ++ wsL_corner_r21)))))))))))))))))))) ++ wsX70 ++ wsX50 ++ wsX00 ++ wsX40 ++ wsX20 ++ wsX30 ++ wsX60)) (good_at (w := .code yL_corner cL_corner 1 (some .boolean)) 7 rfl rfl) (goodIn_app (goodIn_app (goodIn_app (goodIn_app (goodIn_app (goodIn_app (goodIn_app (goodIn_app ggL_law_L_corner_0 (goodIn_app ggL_law_L_corner_2 (goodIn_app ggL_law_L_corner_4 (goodIn_app ggL_law_L_corner_6 (goodIn_app ggL_law_L_corner_8 (goodIn_app ggL_law_L_corner_10 (goodIn_app ggL_law_L_corner_12 (goodIn_app ggL_law_L_corner_14 (goodIn_app ggL_law_L_corner_16 (goodIn_app ggL_law_L_corner_18 (goodIn_app ggL_law_L_corner_20 (goodIn_app ggL_law_L_corner_22 (goodIn_app ggL_law_L_corner_24 (goodIn_app ggL_law_L_corner_26 (goodIn_app ggL_law_L_corner_28 (goodIn_app ggL_law_L_corner_30 (goodIn_app ggL_law_L_corner_32 (goodIn_app ggL_law_L_corner_34 (goodIn_app ggL_law_L_corner_36 (goodIn_app ggL_law_L_corner_38 ggL_law_L_corner_40)))))))))))))))))))) ggL_law_L_corner_42) ggL_law_L_corner_44) ggL_law_L_corner_46) ggL_law_L_corner_48) ggL_law_L_corner_50) ggL_law_L_corner_52) ggL_law_L_corner_54)
set_option maxRecDepth 20000 in
theorem gL_law_L_corner : GoodIn wsL_law (va_wsS RL 142 yL_corner wsL_corner) := goodIn_app (goodIn_of _ (by decide +kernel)) ggL_law_L_corner
set_option maxRecDepth 20000 in
theorem ggL_law_L_limits_0 : GoodIn wsL_law wsL_limits_r1 := goodIn_r wsL_limits_r1 [0, 1, 2, 8, 9, 10, 11, 12, 13, 14, 15, 16, 17, 18, 19, 20, 21, 22, 23, 24, 25, 26, 27, 28] (by decide +kernel) (by decide +kernel)
set_option maxRecDepth 20000 in
theorem ggL_law_L_limits_2 : GoodIn wsL_law wsL_limits_r2 := goodIn_r wsL_limits_r2 [29, 30, 31, 32, 33, 34, 35, 36, 37, 38, 39, 40, 41, 42, 43, 44, 45, 46, 47, 48, 49, 50, 51, 52] (by decide +kernel) (by decide +kernel)
set_option maxRecDepth 20000 in
theorem ggL_law_L_limits_4 : GoodIn wsL_law wsL_limits_r3 := goodIn_r wsL_limits_r3 [53, 54, 55, 56, 57, 58, 59, 60, 61, 62, 63, 64, 297, 298, 299, 300, 118, 229, 213, 103, 214, 230, 216, 217] (by decide +kernel) (by decide +kernel)
set_option maxRecDepth 20000 in
theorem ggL_law_L_limits_6 : GoodIn wsL_law wsL_limits_r4 := goodIn_r wsL_limits_r4 [301, 302, 303, 304, 96, 305, 306, 307, 308, 309, 89, 90, 91, 92, 93, 94, 95, 128, 129, 130, 131, 74, 132, 133] (by decide +kernel) (by decide +kernel)
set_option maxRecDepth 20000 in
theorem ggL_law_L_limits_8 : GoodIn wsL_law wsL_limits_r5 := goodIn_r wsL_limits_r5 [134, 135, 136, 106, 107, 108, 109, 110, 111, 112, 113, 310, 311, 312, 313, 314, 315, 316, 317, 97, 98, 99, 100, 101] (by decide +kernel) (by decide +kernel)
set_option maxRecDepth 20000 in
theorem ggL_law_L_limits_10 : GoodIn wsL_law wsL_limits_r6 := goodIn_r wsL_limits_r6 [102, 104, 149, 150, 151, 152, 153, 154, 155, 156, 157, 158, 159, 160, 161, 162, 163, 164, 165, 166, 167, 168, 169, 170] (by decide +kernel) (by decide +kernel)
set_option maxRecDepth 20000 in
theorem ggL_law_L_limits_12 : GoodIn wsL_law wsL_limits_r7 := goodIn_r wsL_limits_r7 [171, 172, 173, 460, 461, 462, 463, 464, 465, 466, 467, 178, 468, 469, 470, 471, 220, 221, 222, 223, 418, 419, 420, 421] (by decide +kernel) (by decide +kernel)
set_option maxRecDepth 20000 in
theorem ggL_law_L_limits_14 : GoodIn wsL_law wsL_limits_r8 := goodIn_r wsL_limits_r8 [422, 423, 424, 425, 426, 427, 428, 429, 430, 431, 432, 433, 434, 435, 436, 437, 438, 439, 440, 441, 201, 202, 203, 204] (by decide +kernel) (by decide +kernel)
set_option maxRecDepth 20000 in
theorem ggL_law_L_limits_16 : GoodIn wsL_law wsL_limits_r9 := goodIn_r wsL_limits_r9 [205, 206, 207, 208, 442, 210, 211, 443, 198, 199, 444, 445, 446, 447, 448, 449, 450, 451, 452, 453, 454, 455, 456, 457] (by decide +kernel) (by decide +kernel)
set_option maxRecDepth 20000 in
theorem ggL_law_L_limits_18 : GoodIn wsL_law wsL_limits_r10 := goodIn_r wsL_limits_r10 [458, 459, 369, 370, 371, 372, 145, 239, 240, 241, 254, 373, 374, 375, 376, 377, 378, 379, 380, 141, 142, 143, 144, 119] (by decide +kernel) (by decide +kernel)
set_option maxRecDepth 20000 in
theorem ggL_law_L_limits_20 : GoodIn wsL_law wsL_limits_r11 := goodIn_r wsL_limits_r11 [146, 147, 148, 69, 174, 175, 176, 177, 179, 180, 181, 76, 77, 78, 182, 183, 184, 185, 186, 187, 188, 189, 190, 191] (by decide +kernel) (by decide +kernel)
set_option maxRecDepth 20000 in
theorem ggL_law_L_limits_22 : GoodIn wsL_law wsL_limits_r12 := goodIn_r wsL_limits_r12 [192, 193, 194, 195, 196, 197, 200, 209, 212, 215, 218, 219, 224, 235, 236, 237, 238, 242, 243, 244, 245, 246, 247, 248] (by decide +kernel) (by decide +kernel)
set_option maxRecDepth 20000 in
theorem ggL_law_L_limits_24 : GoodIn wsL_law wsL_limits_r13 := goodIn_r wsL_limits_r13 [249, 250, 251, 252, 253, 255, 327, 328, 6, 329, 330, 331, 332, 333, 318, 319, 320, 321, 322, 285, 231, 232, 233, 234] (by decide +kernel) (by decide +kernel)
set_option maxRecDepth 20000 in
theorem ggL_law_L_limits_26 : GoodIn wsL_law wsL_limits_r14 := goodIn_p wsL_limits_r14 [326, 336, 343, 347, 351] (by rfl) (by decide +kernel)
set_option maxRecDepth 20000 in
theorem ggL_law_L_limits_28 : GoodIn wsL_law wsL_limits_r15 := goodIn_r wsL_limits_r15 [353, 354, 355, 356, 357, 358, 359, 360, 361, 362, 363, 364, 365, 366, 367, 368, 381, 382, 383, 384, 385, 386, 387, 388] (by decide +kernel) (by decide +kernel)
set_option maxRecDepth 20000 in
theorem ggL_law_L_limits_30 : GoodIn wsL_law wsL_limits_r16 := goodIn_r wsL_limits_r16 [389, 390, 391, 392, 393, 394, 395, 396, 397, 398, 399, 400, 401, 402, 403, 404, 405, 406, 407, 408, 409, 410, 411, 412] (by decide +kernel) (by decide +kernel)
set_option maxRecDepth 20000 in
theorem ggL_law_L_limits_32 : GoodIn wsL_law wsL_limits_r17 := goodIn_r wsL_limits_r17 [225, 226, 227, 228, 413, 414, 415, 416, 417, 256, 257, 258, 259, 260, 261, 262, 263, 264, 265, 266, 267, 268, 269, 270] (by decide +kernel) (by decide +kernel)
set_option maxRecDepth 20000 in
theorem ggL_law_L_limits_34 : GoodIn wsL_law wsL_limits_r18 := goodIn_r wsL_limits_r18 [271, 272, 273, 274, 275, 276, 277, 278, 279, 280, 281, 282, 283, 284, 286, 287, 288, 289, 290, 291, 292, 293, 294, 295] (by decide +kernel) (by decide +kernel)
set_option maxRecDepth 20000 in
theorem ggL_law_L_limits_36 : GoodIn wsL_law wsL_limits_r19 := goodIn_r wsL_limits_r19 [296, 472, 473, 474, 475, 120, 121, 122, 476, 477, 478, 479, 127, 480, 114, 115, 116, 117, 123, 124, 125, 126, 137, 138] (by decide +kernel) (by decide +kernel)
set_option maxRecDepth 20000 in
theorem ggL_law_L_limits_38 : GoodIn wsL_law wsL_limits_r20 := goodIn_r wsL_limits_r20 [139, 140, 79, 80, 81, 82, 83, 84, 85, 86, 87, 105, 481, 482, 483, 484, 485, 486, 487, 488, 489, 490, 491, 492] (by decide +kernel) (by decide +kernel)
set_option maxRecDepth 20000 in
theorem ggL_law_L_limits_40 : GoodIn wsL_law wsL_limits_r21 := goodIn_r wsL_limits_r21 [493, 494] (by decide +kernel) (by decide +kernel)
set_option maxRecDepth 20000 in
theorem ggL_law_L_limits_42 : GoodIn wsL_law wsX70 := goodIn_r wsX70 [536, 537, 538, 539] (by decide +kernel) (by decide +kernel)
set_option maxRecDepth 20000 in
theorem ggL_law_L_limits_44 : GoodIn wsL_law wsX50 := goodIn_r wsX50 [540, 541] (by decide +kernel) (by decide +kernel)
set_option maxRecDepth 20000 in
theorem ggL_law_L_limits_46 : GoodIn wsL_law wsX00 := goodIn_r wsX00 [542, 543] (by decide +kernel) (by decide +kernel)
set_option maxRecDepth 20000 in
theorem ggL_law_L_limits_48 : GoodIn wsL_law wsX40 := goodIn_r wsX40 [544, 545] (by decide +kernel) (by decide +kernel)
set_option maxRecDepth 20000 in
theorem ggL_law_L_limits_50 : GoodIn wsL_law wsX20 := goodIn_r wsX20 [546, 547, 548] (by decide +kernel) (by decide +kernel)
set_option maxRecDepth 20000 in
theorem ggL_law_L_limits_52 : GoodIn wsL_law wsX30 := goodIn_r wsX30 [549, 550, 551, 552, 553, 554] (by decide +kernel) (by decide +kernel)
set_option maxRecDepth 20000 in
theorem ggL_law_L_limits_54 : GoodIn wsL_law wsX60 := goodIn_r wsX60 [555, 556, 557, 558] (by decide +kernel) (by decide +kernel)
set_option maxRecDepth 100000 in
theorem ggL_law_L_limits : GoodIn wsL_law wsL_limits := goodIn_app (b := ((wsL_limits_r1 ++ (wsL_limits_r2 ++ (wsL_limits_r3 ++ (wsL_limits_r4 ++ (wsL_limits_r5 ++ (wsL_limits_r6 ++ (wsL_limits_r7 ++ (wsL_limits_r8 ++ (wsL_limits_r9 ++ (wsL_limits_r10 ++ (wsL_limits_r11 ++ (wsL_limits_r12 ++ (wsL_limits_r13 ++ (wsL_limits_r14 ++ (wsL_limits_r15 ++ (wsL_limits_r16 ++ (wsL_limits_r17 ++ (wsL_limits_r18 ++ (wsL_limits_r19 ++ (wsL_limits_r20 ++ wsL_limits_r21)))))))))))))))))))) ++ wsX70 ++ wsX50 ++ wsX00 ++ wsX40 ++ wsX20 ++ wsX30 ++ wsX60)) (good_at (w := .code yL_limits cL_limits 2 (some .boolean)) 497 rfl rfl) (goodIn_app (goodIn_app (goodIn_app (goodIn_app (goodIn_app (goodIn_app (goodIn_app (goodIn_app ggL_law_L_limits_0 (goodIn_app ggL_law_L_limits_2 (goodIn_app ggL_law_L_limits_4 (goodIn_app ggL_law_L_limits_6 (goodIn_app ggL_law_L_limits_8 (goodIn_app ggL_law_L_limits_10 (goodIn_app ggL_law_L_limits_12 (goodIn_app ggL_law_L_limits_14 (goodIn_app ggL_law_L_limits_16 (goodIn_app ggL_law_L_limits_18 (goodIn_app ggL_law_L_limits_20 (goodIn_app ggL_law_L_limits_22 (goodIn_app ggL_law_L_limits_24 (goodIn_app ggL_law_L_limits_26 (goodIn_app ggL_law_L_limits_28 (goodIn_app ggL_law_L_limits_30 (goodIn_app ggL_law_L_limits_32 (goodIn_app ggL_law_L_limits_34 (goodIn_app ggL_law_L_limits_36 (goodIn_app ggL_law_L_limits_38 ggL_law_L_limits_40)))))))))))))))))))) ggL_law_L_limits_42) ggL_law_L_limits_44) ggL_law_L_limits_46) ggL_law_L_limits_48) ggL_law_L_limits_50) ggL_law_L_limits_52) ggL_law_L_limits_54)
set_option maxRecDepth 20000 in
theorem gL_law_L_limits : GoodIn wsL_law (va_wsS RL 146 yL_limits wsL_limits) := goodIn_app (goodIn_of _ (by decide +kernel)) ggL_law_L_limits
set_option maxRecDepth 20000 in
theorem ggL_law_L_texts_0 : GoodIn wsL_law wsL_texts_r1 := goodIn_r wsL_texts_r1 [0, 1, 2, 501, 502, 503, 504, 505, 506, 507, 508, 509, 510, 511, 512, 513, 514, 515, 516, 338, 8, 9, 10, 11] (by decide +kernel) (by decide +kernel)
set_option maxRecDepth 20000 in
theorem ggL_law_L_texts_2 : GoodIn wsL_law wsL_texts_r2 := goodIn_r wsL_texts_r2 [12, 13, 14, 15, 16, 17, 18, 19, 20, 21, 22, 23, 24, 25, 26, 27, 28, 29, 30, 31, 32, 33, 34, 35] (by decide +kernel) (by decide +kernel)
set_option maxRecDepth 20000 in
theorem ggL_law_L_texts_4 : GoodIn wsL_law wsL_texts_r3 := goodIn_r wsL_texts_r3 [36, 37, 38, 39, 40, 41, 42, 43, 44, 45, 46, 47, 48, 49, 50, 51, 52, 53, 54, 55, 56, 57, 58, 59] (by decide +kernel) (by decide +kernel)
set_option maxRecDepth 20000 in
theorem ggL_law_L_texts_6 : GoodIn wsL_law wsL_texts_r4 := goodIn_r wsL_texts_r4 [60, 61, 62, 63, 64, 517, 518, 519, 520, 385, 386, 387, 388, 389, 390, 391, 392, 393, 394, 395, 396, 397, 398, 399] (by decide +kernel) (by decide +kernel)
set_option maxRecDepth 20000 in
theorem ggL_law_L_texts_8 : GoodIn wsL_law wsL_texts_r5 := goodIn_r wsL_texts_r5 [381, 382, 383, 384, 118, 128, 129, 130, 131, 74, 132, 133, 134, 135, 136, 106, 107, 108, 109, 110, 111, 112, 96, 113] (by decide +kernel) (by decide +kernel)
set_option maxRecDepth 20000 in
theorem ggL_law_L_texts_10 : GoodIn wsL_law wsL_texts_r6 := goodIn_r wsL_texts_r6 [400, 401, 402, 403, 404, 216, 103, 217, 405, 406, 407, 408, 301, 302, 303, 304, 305, 306, 307, 308, 309, 89, 90, 91] (by decide +kernel) (by decide +kernel)
set_option maxRecDepth 20000 in
theorem ggL_law_L_texts_12 : GoodIn wsL_law wsL_texts_r7 := goodIn_r wsL_texts_r7 [92, 93, 94, 95, 310, 311, 312, 313, 314, 315, 316, 317, 97, 98, 99, 100, 101, 102, 104, 409, 410, 411, 412, 481] (by decide +kernel) (by decide +kernel)
set_option maxRecDepth 20000 in
theorem ggL_law_L_texts_14 : GoodIn wsL_law wsL_texts_r8 := goodIn_r wsL_texts_r8 [482, 483, 484, 148, 485, 486, 487, 488, 489, 490, 491, 492, 493, 494, 521, 522, 523, 524, 141, 142, 143, 144, 119, 145] (by decide +kernel) (by decide +kernel)
set_option maxRecDepth 20000 in
theorem ggL_law_L_texts_16 : GoodIn wsL_law wsL_texts_r9 := goodIn_r wsL_texts_r9 [146, 147, 69, 149, 150, 151, 152, 153, 154, 155, 156, 157, 158, 159, 160, 161, 162, 163, 164, 165, 166, 167, 168, 169] (by decide +kernel) (by decide +kernel)
set_option maxRecDepth 20000 in
theorem ggL_law_L_texts_18 : GoodIn wsL_law wsL_texts_r10 := goodIn_r wsL_texts_r10 [170, 171, 172, 173, 174, 175, 176, 177, 178, 179, 180, 181, 76, 77, 78, 182, 183, 184, 185, 186, 187, 188, 189, 190] (by decide +kernel) (by decide +kernel)
set_option maxRecDepth 20000 in
theorem ggL_law_L_texts_20 : GoodIn wsL_law wsL_texts_r11 := goodIn_r wsL_texts_r11 [191, 192, 193, 194, 195, 196, 197, 198, 199, 200, 201, 202, 203, 204, 205, 206, 207, 208, 209, 210, 211, 212, 213, 214] (by decide +kernel) (by decide +kernel)
set_option maxRecDepth 20000 in
theorem ggL_law_L_texts_22 : GoodIn wsL_law wsL_texts_r12 := goodIn_r wsL_texts_r12 [215, 218, 219, 220, 221, 222, 223, 224, 318, 319, 320, 321, 322, 285, 242, 243, 231, 232, 233, 234, 323, 324, 325, 326] (by decide +kernel) (by decide +kernel)
set_option maxRecDepth 20000 in
theorem ggL_law_L_texts_24 : GoodIn wsL_law wsL_texts_r13 := goodIn_r wsL_texts_r13 [65, 66, 67, 68, 70, 71, 72, 73, 75, 79, 80, 81, 82, 83, 84, 85, 86, 87, 88, 105] (by decide +kernel) (by decide +kernel)
set_option maxRecDepth 20000 in
theorem ggL_law_L_texts_26 : GoodIn wsL_law wsX70 := goodIn_r wsX70 [536, 537, 538, 539] (by decide +kernel) (by decide +kernel)
set_option maxRecDepth 20000 in
theorem ggL_law_L_texts_28 : GoodIn wsL_law wsX50 := goodIn_r wsX50 [540, 541] (by decide +kernel) (by decide +kernel)
set_option maxRecDepth 20000 in
theorem ggL_law_L_texts_30 : GoodIn wsL_law wsX00 := goodIn_r wsX00 [542, 543] (by decide +kernel) (by decide +kernel)
set_option maxRecDepth 20000 in
theorem ggL_law_L_texts_32 : GoodIn wsL_law wsX40 := goodIn_r wsX40 [544, 545] (by decide +kernel) (by decide +kernel)
set_option maxRecDepth 20000 in
theorem ggL_law_L_texts_34 : GoodIn wsL_law wsX20 := goodIn_r wsX20 [546, 547, 548] (by decide +kernel) (by decide +kernel)
set_option maxRecDepth 20000 in
theorem ggL_law_L_texts_36 : GoodIn wsL_law wsX30 := goodIn_r wsX30 [549, 550, 551, 552, 553, 554] (by decide +kernel) (by decide +kernel)
set_option maxRecDepth 100000 in
theorem ggL_law_L_texts : GoodIn wsL_law wsL_texts := goodIn_app (b := ((wsL_texts_r1 ++ (wsL_texts_r2 ++ (wsL_texts_r3 ++ (wsL_texts_r4 ++ (wsL_texts_r5 ++ (wsL_texts_r6 ++ (wsL_texts_r7 ++ (wsL_texts_r8 ++ (wsL_texts_r9 ++ (wsL_texts_r10 ++ (wsL_texts_r11 ++ (wsL_texts_r12 ++ wsL_texts_r13)))))))))))) ++ wsX70 ++ wsX50 ++ wsX00 ++ wsX40 ++ wsX20 ++ wsX30)) (good_at (w := .code yL_texts cL_texts 2 (some .boolean)) 500 rfl rfl) (goodIn_app (goodIn_app (goodIn_app (goodIn_app (goodIn_app (goodIn_app (goodIn_app ggL_law_L_texts_0 (goodIn_app ggL_law_L_texts_2 (goodIn_app ggL_law_L_texts_4 (goodIn_app ggL_law_L_texts_6 (goodIn_app ggL_law_L_texts_8 (goodIn_app ggL_law_L_texts_10 (goodIn_app ggL_law_L_texts_12 (goodIn_app ggL_law_L_texts_14 (goodIn_app ggL_law_L_texts_16 (goodIn_app ggL_law_L_texts_18 (goodIn_app ggL_law_L_texts_20 (goodIn_app ggL_law_L_texts_22 ggL_law_L_texts_24)))))))))))) ggL_law_L_texts_26) ggL_law_L_texts_28) ggL_law_L_texts_30) ggL_law_L_texts_32) ggL_law_L_texts_34) ggL_law_L_texts_36)
set_option maxRecDepth 20000 in
theorem gL_law_L_texts : GoodIn wsL_law (va_wsS RL 149 yL_texts wsL_texts) := goodIn_app (goodIn_of _ (by decide +kernel)) ggL_law_L_texts
set_option maxRecDepth 20000 in
theorem ggL_law_X7_init : GoodIn wsL_law wsX7_init := goodIn_r _ [10, 11, 12, 13, 14, 15, 16, 17, 18, 19, 20, 21, 22, 23, 24, 25, 26, 27, 28, 29, 30, 31, 32, 33, 34, 35, 36, 37, 38, 39, 40, 41, 42, 43, 44, 45, 46, 47, 48, 49, 50, 51, 52, 53, 54, 55, 56, 57, 58, 59, 60, 61, 62, 63, 64, 540, 541, 536, 537, 538, 539, 542, 543, 544, 545, 546, 547, 548, 549, 550, 551, 552, 553, 554] (by decide +kernel) (by decide +kernel)
set_option maxRecDepth 20000 in
theorem gL_law_X7_init : GoodIn wsL_law (wsX7_init) := ggL_law_X7_init
set_option maxRecDepth 20000 in
theorem ggL_law_X7_point : GoodIn wsL_law wsX7_point := goodIn_r _ [300, 17, 118, 21, 229, 213, 103, 214, 230, 216, 217, 301, 302, 303, 35, 304, 96, 305, 306, 307, 308, 309, 89, 90, 91, 42, 92, 93, 94, 95, 128, 129, 130, 20, 131, 74, 51, 132, 133, 134, 135, 136, 106, 107, 108, 109, 110, 111, 112, 43, 113, 44, 45, 310, 311, 312, 16, 313, 36, 314, 315, 316, 317, 97, 98, 99, 100, 38, 101, 102, 104, 149, 150, 151, 152, 153, 154, 155, 156, 157, 158, 159, 160, 161, 162, 163, 164, 165, 166, 167, 168, 169, 170, 171, 172, 173, 536, 537, 538, 539, 540, 541, 549, 550, 551, 552, 553, 554, 542, 543] (by decide +kernel) (by decide +kernel)
set_option maxRecDepth 20000 in
theorem gL_law_X7_point : GoodIn wsL_law (wsV RL 29 RX7 yX7_point wsX7_point) := goodIn_app (goodIn_of _ (by decide +kernel)) ggL_law_X7_point
set_option maxRecDepth 20000 in
theorem ggL_law_X7_save : GoodIn wsL_law wsX7_save := goodIn_r _ [475, 25, 17, 118, 119, 120, 121, 24, 122, 476, 477, 478, 479, 57, 59, 127, 480, 106, 107, 35, 108, 42, 109, 110, 111, 112, 43, 96, 113, 44, 45, 536, 537, 538, 539, 540, 541, 549, 550, 551, 552, 553, 554, 544, 545] (by decide +kernel) (by decide +kernel)
set_option maxRecDepth 20000 in
theorem gL_law_X7_save : GoodIn wsL_law (wsV RL 72 RX7 yX7_save wsX7_save) := goodIn_app (goodIn_of _ (by decide +kernel)) ggL_law_X7_save
set_option maxRecDepth 20000 in
theorem ggL_law_L_seen : GoodIn wsL_law wsL_seen := goodIn_r _ [332, 333, 141, 142, 143, 2, 144, 17, 118, 119, 145, 146, 147, 29, 148, 21, 69, 149, 150, 151, 16, 152, 153, 154, 155, 156, 157, 158, 159, 36, 160, 161, 162, 163, 164, 165, 38, 166, 167, 168, 35, 169, 170, 171, 172, 173, 113, 43, 174, 175, 176, 177, 178, 179, 180, 181, 76, 77, 78, 182, 183, 184, 185, 186, 187, 188, 189, 190, 191, 192, 193, 103, 194, 195, 196, 197, 198, 199, 200, 201, 202, 203, 204, 205, 206, 207, 208, 209, 210, 211, 212, 213, 214, 215, 216, 217, 218, 102, 104, 219, 220, 221, 222, 223, 101, 224, 318, 319, 320, 321, 322, 93, 94, 95, 96, 285, 89, 90, 91, 42, 92, 242, 243, 231, 232, 233, 234, 323, 324, 325, 326, 309, 235, 236, 237, 238, 239, 240, 241, 244, 245, 246, 247, 248, 249, 250, 251, 252, 253, 254, 255, 536, 537, 538, 539, 540, 541, 549, 550, 551, 552, 553, 554, 546, 547, 548, 542, 543] (by decide +kernel) (by decide +kernel)
set_option maxRecDepth 20000 in
theorem gL_law_L_seen : GoodIn wsL_law (va_wsS RL 88 yL_seen wsL_seen) := goodIn_app (goodIn_of _ (by decide +kernel)) ggL_law_L_seen
set_option maxRecDepth 20000 in
theorem ggL_law_L_drawn : GoodIn wsL_law wsL_drawn := goodIn_r _ [527, 528] (by decide +kernel) (by decide +kernel)
set_option maxRecDepth 20000 in
theorem gL_law_L_drawn : GoodIn wsL_law (va_wsS RL 152 yL_drawn wsL_drawn) := goodIn_app (goodIn_of _ (by decide +kernel)) ggL_law_L_drawn
set_option maxRecDepth 20000 in
theorem ggL_law_L_part : GoodIn wsL_law wsL_part := goodIn_r _ [531, 532] (by decide +kernel) (by decide +kernel)
set_option maxRecDepth 20000 in
theorem gL_law_L_part : GoodIn wsL_law (va_wsS RL 156 yL_part wsL_part) := goodIn_app (goodIn_of _ (by decide +kernel)) ggL_law_L_part
set_option maxRecDepth 20000 in
theorem ggL_law_X7_count : GoodIn wsL_law wsX7_count := goodIn_r _ [144, 17, 118, 119, 145, 146, 147, 29, 148, 21, 69, 149, 150, 151, 16, 152, 153, 154, 155, 156, 157, 158, 159, 36, 160, 161, 162, 163, 164, 165, 38, 166, 167, 168, 35, 169, 170, 171, 172, 173, 113, 43, 174, 175, 176, 177, 178, 179, 180, 181, 76, 77, 78, 182, 183, 184, 185, 186, 187, 188, 189, 190, 191, 192, 193, 103, 194, 195, 196, 197, 198, 199, 200, 201, 202, 203, 204, 205, 206, 207, 208, 209, 210, 211, 212, 213, 214, 215, 216, 217, 218, 102, 104, 219, 220, 221, 222, 223, 101, 224, 536, 537, 538, 539, 540, 541, 549, 550, 551, 552, 553, 554, 546, 547, 548, 542, 543] (by decide +kernel) (by decide +kernel)
set_option maxRecDepth 20000 in
theorem gL_law_X7_count : GoodIn wsL_law (wsV RL 11 RX7 yX7_count wsX7_count) := goodIn_app (goodIn_of _ (by decide +kernel)) ggL_law_X7_count
set_option maxRecDepth 20000 in
theorem ggL_law_X7_take : GoodIn wsL_law wsX7_take := goodIn_r _ [347, 17, 118, 21, 322, 93, 94, 35, 95, 96, 128, 129, 130, 20, 131, 74, 51, 132, 133, 134, 135, 136, 106, 107, 108, 42, 109, 110, 111, 112, 43, 113, 44, 45, 348, 349, 350, 16, 351, 36, 88, 89, 90, 91, 92, 97, 98, 99, 100, 38, 101, 102, 103, 104, 352, 353, 354, 355, 149, 150, 151, 152, 153, 154, 155, 156, 157, 158, 159, 160, 161, 162, 163, 164, 165, 166, 167, 168, 169, 170, 171, 172, 173, 536, 537, 538, 539, 540, 541, 549, 550, 551, 552, 553, 554, 542, 543] (by decide +kernel) (by decide +kernel)
set_option maxRecDepth 20000 in
theorem gL_law_X7_take : GoodIn wsL_law (wsV RL 32 RX7 yX7_take wsX7_take) := goodIn_app (goodIn_of _ (by decide +kernel)) ggL_law_X7_take
set_option maxRecDepth 20000 in
theorem ggL_law_X7_move : GoodIn wsL_law wsX7_move := goodIn_r _ [359, 17, 118, 21, 322, 93, 94, 35, 95, 96, 229, 213, 103, 214, 230, 216, 217, 360, 306, 307, 308, 309, 89, 90, 91, 42, 92, 128, 129, 130, 20, 131, 74, 51, 132, 133, 134, 135, 136, 106, 107, 108, 109, 110, 111, 112, 43, 113, 44, 45, 361, 362, 363, 16, 364, 36, 88, 97, 98, 99, 100, 38, 101, 102, 104, 365, 366, 367, 368, 149, 150, 151, 152, 153, 154, 155, 156, 157, 158, 159, 160, 161, 162, 163, 164, 165, 166, 167, 168, 169, 170, 171, 172, 173, 536, 537, 538, 539, 540, 541, 549, 550, 551, 552, 553, 554, 542, 543] (by decide +kernel) (by decide +kernel)
set_option maxRecDepth 20000 in
theorem gL_law_X7_move : GoodIn wsL_law (wsV RL 35 RX7 yX7_move wsX7_move) := goodIn_app (goodIn_of _ (by decide +kernel)) ggL_law_X7_move
set_option maxRecDepth 20000 in
theorem ggL_law_X7_split : GoodIn wsL_law wsX7_split := goodIn_r _ [372, 17, 118, 145, 21, 239, 240, 103, 241, 254, 167, 168, 35, 169, 170, 171, 172, 173, 113, 43, 128, 129, 130, 20, 131, 74, 51, 132, 133, 134, 135, 136, 106, 107, 108, 42, 109, 110, 111, 112, 96, 44, 45, 373, 374, 375, 376, 377, 378, 379, 380, 149, 150, 151, 16, 152, 153, 154, 155, 156, 157, 158, 159, 36, 160, 161, 162, 163, 164, 165, 38, 166, 536, 537, 538, 539, 540, 541, 549, 550, 551, 552, 553, 554, 542, 543] (by decide +kernel) (by decide +kernel)
set_option maxRecDepth 20000 in
theorem gL_law_X7_split : GoodIn wsL_law (wsV RL 39 RX7 yX7_split wsX7_split) := goodIn_app (goodIn_of _ (by decide +kernel)) ggL_law_X7_split
set_option maxRecDepth 20000 in
theorem ggL_law_X7_set : GoodIn wsL_law wsX7_set := goodIn_r _ [343, 17, 118, 21, 146, 147, 128, 129, 130, 20, 131, 74, 51, 132, 133, 134, 135, 136, 106, 107, 35, 108, 42, 109, 110, 111, 112, 43, 96, 113, 44, 45, 536, 537, 538, 539, 540, 541, 549, 550, 551, 552, 553, 554, 542, 543] (by decide +kernel) (by decide +kernel)
set_option maxRecDepth 20000 in
theorem gL_law_X7_set : GoodIn wsL_law (wsV RL 24 RX7 yX7_set wsX7_set) := goodIn_app (goodIn_of _ (by decide +kernel)) ggL_law_X7_set
set_option maxRecDepth 20000 in
theorem ggL_law_X7_restore : GoodIn wsL_law wsX7_restore := goodIn_r _ [117, 25, 21, 17, 118, 119, 120, 121, 24, 122, 123, 124, 125, 126, 59, 127, 128, 129, 130, 20, 131, 74, 51, 132, 133, 134, 135, 136, 106, 107, 35, 108, 42, 109, 110, 111, 112, 43, 96, 113, 44, 45, 137, 138, 139, 140, 57, 79, 80, 81, 16, 82, 36, 83, 84, 85, 86, 87, 88, 89, 90, 91, 92, 93, 94, 95, 97, 98, 99, 100, 38, 101, 102, 103, 104, 105, 536, 537, 538, 539, 540, 541, 549, 550, 551, 552, 553, 554, 544, 545, 542, 543] (by decide +kernel) (by decide +kernel)
set_option maxRecDepth 20000 in
theorem gL_law_X7_restore : GoodIn wsL_law (wsV RL 75 RX7 yX7_restore wsX7_restore) := goodIn_app (goodIn_of _ (by decide +kernel)) ggL_law_X7_restore
set_option maxRecDepth 20000 in
theorem ggL_law_L_refused_0 : GoodIn wsL_law wsL_refused_r1 := goodIn_r wsL_refused_r1 [330, 331, 6, 332, 333, 141, 142, 143, 2, 144, 17, 118, 119, 145, 146, 147, 29, 148, 21, 69, 149, 150, 151, 16] (by decide +kernel) (by decide +kernel)
set_option maxRecDepth 20000 in
theorem ggL_law_L_refused_2 : GoodIn wsL_law wsL_refused_r2 := goodIn_r wsL_refused_r2 [152, 153, 154, 155, 156, 157, 158, 159, 36, 160, 161, 162, 163, 164, 165, 38, 166, 167, 168, 35, 169, 170, 171, 172] (by decide +kernel) (by decide +kernel)
set_option maxRecDepth 20000 in
theorem ggL_law_L_refused_4 : GoodIn wsL_law wsL_refused_r3 := goodIn_r wsL_refused_r3 [173, 113, 43, 174, 175, 176, 177, 178, 179, 180, 181, 76, 77, 78, 182, 183, 184, 185, 186, 187, 188, 189, 190, 191] (by decide +kernel) (by decide +kernel)
set_option maxRecDepth 20000 in
theorem ggL_law_L_refused_6 : GoodIn wsL_law wsL_refused_r4 := goodIn_r wsL_refused_r4 [192, 193, 103, 194, 195, 196, 197, 198, 199, 200, 201, 202, 203, 204, 205, 206, 207, 208, 209, 210, 211, 212, 213, 214] (by decide +kernel) (by decide +kernel)
set_option maxRecDepth 20000 in
theorem ggL_law_L_refused_8 : GoodIn wsL_law wsL_refused_r5 := goodIn_r wsL_refused_r5 [215, 216, 217, 218, 102, 104, 219, 220, 221, 222, 223, 101, 224, 318, 319, 320, 321, 322, 93, 94, 95, 96, 285, 89] (by decide +kernel) (by decide +kernel)
set_option maxRecDepth 20000 in
theorem ggL_law_L_refused_10 : GoodIn wsL_law wsL_refused_r6 := goodIn_r wsL_refused_r6 [90, 91, 42, 92, 242, 243, 231, 232, 233, 234, 323, 324, 325, 326, 309, 235, 236, 237, 238, 239, 240, 241, 244, 245] (by decide +kernel) (by decide +kernel)
set_option maxRecDepth 20000 in
theorem ggL_law_L_refused_12 : GoodIn wsL_law wsL_refused_r7 := goodIn_p wsL_refused_r7 [249, 253, 336, 343] (by rfl) (by decide +kernel)
set_option maxRecDepth 20000 in
theorem ggL_law_L_refused_14 : GoodIn wsL_law wsL_refused_r8 := goodIn_r wsL_refused_r8 [131, 74, 51, 132, 133, 134, 135, 136, 106, 107, 108, 109, 110, 111, 112, 44, 45, 297, 298, 299, 300, 229, 230, 301] (by decide +kernel) (by decide +kernel)
set_option maxRecDepth 20000 in
theorem ggL_law_L_refused_16 : GoodIn wsL_law wsL_refused_r9 := goodIn_r wsL_refused_r9 [302, 303, 304, 305, 306, 307, 308, 310, 311, 312, 313, 314, 315, 316, 317, 97, 98, 99, 100, 344, 345, 346, 347, 348] (by decide +kernel) (by decide +kernel)
set_option maxRecDepth 20000 in
theorem ggL_law_L_refused_18 : GoodIn wsL_law wsL_refused_r10 := goodIn_r wsL_refused_r10 [349, 350, 351, 88, 352, 353, 354, 355, 356, 357, 358, 359, 360, 361, 362, 363, 364, 365, 366, 367, 368, 369, 370, 371] (by decide +kernel) (by decide +kernel)
set_option maxRecDepth 20000 in
theorem ggL_law_L_refused_20 : GoodIn wsL_law wsL_refused_r11 := goodIn_r wsL_refused_r11 [372, 373, 374, 375, 376, 377, 378, 379, 380, 381, 382, 383, 384, 385, 386, 387, 28, 388, 389, 390, 391, 392, 393, 63] (by decide +kernel) (by decide +kernel)
set_option maxRecDepth 20000 in
theorem ggL_law_L_refused_22 : GoodIn wsL_law wsL_refused_r12 := goodIn_r wsL_refused_r12 [394, 395, 396, 397, 398, 399, 400, 401, 402, 403, 64, 404, 405, 406, 407, 408, 409, 410, 411, 412, 225, 226, 227, 228] (by decide +kernel) (by decide +kernel)
set_option maxRecDepth 20000 in
theorem ggL_law_L_refused_24 : GoodIn wsL_law wsL_refused_r13 := goodIn_r wsL_refused_r13 [413, 414, 415, 416, 417, 256, 257, 258, 259, 260, 261, 262, 263, 264, 265, 266, 267, 268, 269, 270, 271, 272, 273, 274] (by decide +kernel) (by decide +kernel)
set_option maxRecDepth 20000 in
theorem ggL_law_L_refused_26 : GoodIn wsL_law wsL_refused_r14 := goodIn_r wsL_refused_r14 [275, 276, 277, 278, 279, 280, 418, 419, 420, 421, 422, 423, 424, 425, 426, 427, 428, 12, 13, 429, 430, 431, 432, 433] (by decide +kernel) (by decide +kernel)
set_option maxRecDepth 20000 in
theorem ggL_law_L_refused_28 : GoodIn wsL_law wsL_refused_r15 := goodIn_r wsL_refused_r15 [434, 435, 436, 437, 438, 439, 440, 441, 442, 443, 444, 445, 446, 447, 448, 449, 450, 451, 452, 453, 454, 455, 456, 457] (by decide +kernel) (by decide +kernel)
set_option maxRecDepth 20000 in
theorem ggL_law_L_refused_30 : GoodIn wsL_law wsL_refused_r16 := goodIn_r wsL_refused_r16 [458, 459, 281, 282, 283, 284, 286, 287, 288, 460, 461, 462, 463, 464, 465, 466, 467, 468, 469, 470, 471, 289, 290, 291] (by decide +kernel) (by decide +kernel)
set_option maxRecDepth 20000 in
theorem ggL_law_L_refused_32 : GoodIn wsL_law wsL_refused_r17 := goodIn_r wsL_refused_r17 [292, 293, 294, 295, 296, 472, 473, 474, 475, 25, 120, 121, 24, 122, 476, 477, 478, 479, 57, 59, 127, 480, 114, 115] (by decide +kernel) (by decide +kernel)
set_option maxRecDepth 20000 in
theorem ggL_law_L_refused_34 : GoodIn wsL_law wsL_refused_r18 := goodIn_r wsL_refused_r18 [116, 117, 123, 124, 125, 126, 137, 138, 139, 140, 79, 80, 81, 82, 83, 84, 85, 86, 87, 105, 481, 482, 483, 484] (by decide +kernel) (by decide +kernel)
set_option maxRecDepth 20000 in
theorem ggL_law_L_refused_36 : GoodIn wsL_law wsL_refused_r19 := goodIn_r wsL_refused_r19 [485, 486, 487, 488, 489, 490, 491, 492, 493, 494] (by decide +kernel) (by decide +kernel)
set_option maxRecDepth 20000 in
theorem ggL_law_L_refused_38 : GoodIn wsL_law wsX70 := goodIn_r wsX70 [536, 537, 538, 539] (by decide +kernel) (by decide +kernel)
set_option maxRecDepth 20000 in
theorem ggL_law_L_refused_40 : GoodIn wsL_law wsX50 := goodIn_r wsX50 [540, 541] (by decide +kernel) (by decide +kernel)
set_option maxRecDepth 20000 in
theorem ggL_law_L_refused_42 : GoodIn wsL_law wsX30 := goodIn_r wsX30 [549, 550, 551, 552, 553, 554] (by decide +kernel) (by decide +kernel)
set_option maxRecDepth 20000 in
theorem ggL_law_L_refused_44 : GoodIn wsL_law wsX20 := goodIn_r wsX20 [546, 547, 548] (by decide +kernel) (by decide +kernel)
set_option maxRecDepth 20000 in
theorem ggL_law_L_refused_46 : GoodIn wsL_law wsX00 := goodIn_r wsX00 [542, 543] (by decide +kernel) (by decide +kernel)
set_option maxRecDepth 20000 in
theorem ggL_law_L_refused_48 : GoodIn wsL_law wsX60 := goodIn_r wsX60 [555, 556, 557, 558] (by decide +kernel) (by decide +kernel)
set_option maxRecDepth 20000 in
theorem ggL_law_L_refused_50 : GoodIn wsL_law wsX40 := goodIn_r wsX40 [544, 545] (by decide +kernel) (by decide +kernel)
theorem ggL_law_L_refused : GoodIn wsL_law wsL_refused := goodIn_app (b := ((wsL_refused_r1 ++ (wsL_refused_r2 ++ (wsL_refused_r3 ++ (wsL_refused_r4 ++ (wsL_refused_r5 ++ (wsL_refused_r6 ++ (wsL_refused_r7 ++ (wsL_refused_r8 ++ (wsL_refused_r9 ++ (wsL_refused_r10 ++ (wsL_refused_r11 ++ (wsL_refused_r12 ++ (wsL_refused_r13 ++ (wsL_refused_r14 ++ (wsL_refused_r15 ++ (wsL_refused_r16 ++ (wsL_refused_r17 ++ (wsL_refused_r18 ++ wsL_refused_r19)))))))))))))))))) ++ wsX70 ++ wsX50 ++ wsX30 ++ wsX20 ++ wsX00 ++ wsX60 ++ wsX40)) (good_at (w := .code yL_refused cL_refused 4 (some .boolean)) 329 rfl rfl) (goodIn_app (goodIn_app (goodIn_app (goodIn_app (goodIn_app (goodIn_app (goodIn_app (goodIn_app ggL_law_L_refused_0 (goodIn_app ggL_law_L_refused_2 (goodIn_app ggL_law_L_refused_4 (goodIn_app ggL_law_L_refused_6 (goodIn_app ggL_law_L_refused_8 (goodIn_app ggL_law_L_refused_10 (goodIn_app ggL_law_L_refused_12 (goodIn_app ggL_law_L_refused_14 (goodIn_app ggL_law_L_refused_16 (goodIn_app ggL_law_L_refused_18 (goodIn_app ggL_law_L_refused_20 (goodIn_app ggL_law_L_refused_22 (goodIn_app ggL_law_L_refused_24 (goodIn_app ggL_law_L_refused_26 (goodIn_app ggL_law_L_refused_28 (goodIn_app ggL_law_L_refused_30 (goodIn_app ggL_law_L_refused_32 (goodIn_app ggL_law_L_refused_34 ggL_law_L_refused_36)))))))))))))))))) ggL_law_L_refused_38) ggL_law_L_refused_40) ggL_law_L_refused_42) ggL_law_L_refused_44) ggL_law_L_refused_46) ggL_law_L_refused_48) ggL_law_L_refused_50)
set_option maxRecDepth 20000 in
theorem gL_law_L_refused : GoodIn wsL_law (va_wsS RL 100 yL_refused wsL_refused) := goodIn_app (goodIn_of _ (by decide +kernel)) ggL_law_L_refused
set_option maxRecDepth 20000 in
theorem ggL_law_L_isTakenBack : GoodIn wsL_law wsL_isTakenBack := goodIn_r _ [535, 141, 142, 143, 2, 144, 17, 118, 119, 145, 146, 147, 29, 148, 21, 69, 149, 150, 151, 16, 152, 153, 154, 155, 156, 157, 158, 159, 36, 160, 161, 162, 163, 164, 165, 38, 166, 167, 168, 35, 169, 170, 171, 172, 173, 113, 43, 174, 175, 176, 177, 178, 179, 180, 181, 76, 77, 78, 182, 183, 184, 185, 186, 187, 188, 189, 190, 191, 192, 193, 103, 194, 195, 196, 197, 198, 199, 200, 201, 202, 203, 204, 205, 206, 207, 208, 209, 210, 211, 212, 213, 214, 215, 216, 217, 218, 102, 104, 219, 220, 221, 222, 223, 101, 224, 330, 331, 6, 332, 333, 318, 319, 320, 321, 322, 93, 94, 95, 96, 285, 89, 90, 91, 42, 92, 242, 243, 231, 232, 233, 234, 323, 324, 325, 326, 309, 235, 236, 237, 238, 239, 240, 241, 244, 245, 246, 247, 248, 249, 250, 251, 252, 253, 254, 255, 65, 66, 67, 68, 70, 71, 72, 20, 73, 74, 75, 51, 79, 80, 81, 82, 83, 84, 85, 86, 87, 88, 97, 98, 99, 100, 105, 106, 107, 108, 109, 110, 111, 112, 44, 45, 536, 537, 538, 539, 540, 541, 549, 550, 551, 552, 553, 554, 546, 547, 548, 542, 543] (by decide +kernel) (by decide +kernel)
set_option maxRecDepth 20000 in
theorem gL_law_L_isTakenBack : GoodIn wsL_law (va_wsS RL 159 yL_isTakenBack wsL_isTakenBack) := goodIn_app (goodIn_of _ (by decide +kernel)) ggL_law_L_isTakenBack
set_option maxRecDepth 20000 in
theorem ggL_law_X7_undo : GoodIn wsL_law wsX7_undo := goodIn_r _ [68, 21, 69, 17, 70, 71, 72, 20, 73, 74, 75, 76, 77, 78, 51, 79, 80, 81, 16, 82, 36, 83, 84, 85, 86, 87, 88, 89, 90, 35, 91, 42, 92, 93, 94, 95, 96, 97, 98, 99, 100, 38, 101, 102, 103, 104, 105, 106, 107, 108, 109, 110, 111, 112, 43, 113, 44, 45, 536, 537, 538, 539, 542, 543, 540, 541, 549, 550, 551, 552, 553, 554] (by decide +kernel) (by decide +kernel)
set_option maxRecDepth 20000 in
theorem gL_law_X7_undo : GoodIn wsL_law (wsV RL 97 RX7 yX7_undo wsX7_undo) := goodIn_app (goodIn_of _ (by decide +kernel)) ggL_law_X7_undo
theorem dL_law_0 : decode cL_law 0 = .ok (.invokestatic 142, 3) := by decide +kernel
theorem dL_law_3 : decode cL_law 3 = .ok (.ifCond .eq 15, 3) := by decide +kernel
theorem dL_law_6 : decode cL_law 6 = .ok (.invokestatic 146, 3) := by decide +kernel
theorem dL_law_9 : decode cL_law 9 = .ok (.ifCond .eq 9, 3) := by decide +kernel
theorem dL_law_12 : decode cL_law 12 = .ok (.invokestatic 149, 3) := by decide +kernel
theorem dL_law_15 : decode cL_law 15 = .ok (.ifCond .ne 5, 3) := by decide +kernel
theorem dL_law_18 : decode cL_law 18 = .ok (.iconst 0, 1) := by decide +kernel
theorem dL_law_19 : decode cL_law 19 = .ok (.ireturn, 1) := by decide +kernel
theorem dL_law_20 : decode cL_law 20 = .ok (.new 12, 3) := by decide +kernel
theorem dL_law_23 : decode cL_law 23 = .ok (.dup, 1) := by decide +kernel
theorem dL_law_24 : decode cL_law 24 = .ok (.invokespecial 96, 3) := by decide +kernel
theorem dL_law_27 : decode cL_law 27 = .ok (.astore_n 1, 1) := by decide +kernel
theorem dL_law_28 : decode cL_law 28 = .ok (.bipush 64, 2) := by decide +kernel
theorem dL_law_30 : decode cL_law 30 = .ok (.newarray .long, 2) := by decide +kernel
theorem dL_law_32 : decode cL_law 32 = .ok (.astore_n 2, 1) := by decide +kernel
theorem dL_law_33 : decode cL_law 33 = .ok (.iconst 0, 1) := by decide +kernel
theorem dL_law_34 : decode cL_law 34 = .ok (.istore_n 3, 1) := by decide +kernel
theorem dL_law_35 : decode cL_law 35 = .ok (.aload_n 1, 1) := by decide +kernel
theorem dL_law_36 : decode cL_law 36 = .ok (.bipush 7, 2) := by decide +kernel
theorem dL_law_38 : decode cL_law 38 = .ok (.bipush 7, 2) := by decide +kernel
theorem dL_law_40 : decode cL_law 40 = .ok (.invokevirtual 29, 3) := by decide +kernel
theorem dL_law_43 : decode cL_law 43 = .ok (.iconst 1, 1) := by decide +kernel
theorem dL_law_44 : decode cL_law 44 = .ok (.if_icmp .ne 12, 3) := by decide +kernel
theorem dL_law_47 : decode cL_law 47 = .ok (.aload_n 1, 1) := by decide +kernel
theorem dL_law_48 : decode cL_law 48 = .ok (.iconst 0, 1) := by decide +kernel
theorem dL_law_49 : decode cL_law 49 = .ok (.invokevirtual 72, 3) := by decide +kernel
theorem dL_law_52 : decode cL_law 52 = .ok (.iconst 1, 1) := by decide +kernel
theorem dL_law_53 : decode cL_law 53 = .ok (.if_icmp .eq 5, 3) := by decide +kernel
theorem dL_law_56 : decode cL_law 56 = .ok (.iconst 0, 1) := by decide +kernel
theorem dL_law_57 : decode cL_law 57 = .ok (.ireturn, 1) := by decide +kernel
theorem dL_law_58 : decode cL_law 58 = .ok (.aload_n 1, 1) := by decide +kernel
theorem dL_law_59 : decode cL_law 59 = .ok (.invokestatic 88, 3) := by decide +kernel
theorem dL_law_62 : decode cL_law 62 = .ok (.lstore 4, 2) := by decide +kernel
theorem dL_law_64 : decode cL_law 64 = .ok (.iconst 0, 1) := by decide +kernel
theorem dL_law_65 : decode cL_law 65 = .ok (.istore 6, 2) := by decide +kernel
theorem dL_law_67 : decode cL_law 67 = .ok (.iload 6, 2) := by decide +kernel
theorem dL_law_69 : decode cL_law 69 = .ok (.bipush 22, 2) := by decide +kernel
theorem dL_law_71 : decode cL_law 71 = .ok (.if_icmp .ge 263, 3) := by decide +kernel
theorem dL_law_74 : decode cL_law 74 = .ok (.aload_n 0, 1) := by decide +kernel
theorem dL_law_75 : decode cL_law 75 = .ok (.iload 6, 2) := by decide +kernel
theorem dL_law_77 : decode cL_law 77 = .ok (.invokestatic 152, 3) := by decide +kernel
theorem dL_law_80 : decode cL_law 80 = .ok (.istore 7, 2) := by decide +kernel
theorem dL_law_82 : decode cL_law 82 = .ok (.iload 6, 2) := by decide +kernel
theorem dL_law_84 : decode cL_law 84 = .ok (.iconst 4, 1) := by decide +kernel
theorem dL_law_85 : decode cL_law 85 = .ok (.if_icmp .ge 7, 3) := by decide +kernel
theorem dL_law_88 : decode cL_law 88 = .ok (.iconst 0, 1) := by decide +kernel
theorem dL_law_89 : decode cL_law 89 = .ok (.goto 10, 3) := by decide +kernel
theorem dL_law_92 : decode cL_law 92 = .ok (.iload 7, 2) := by decide +kernel
theorem dL_law_94 : decode cL_law 94 = .ok (.bipush 9, 2) := by decide +kernel
theorem dL_law_96 : decode cL_law 96 = .ok (.invokestatic 156, 3) := by decide +kernel
theorem dL_law_99 : decode cL_law 99 = .ok (.istore 8, 2) := by decide +kernel
theorem dL_law_101 : decode cL_law 101 = .ok (.aload_n 2, 1) := by decide +kernel
theorem dL_law_102 : decode cL_law 102 = .ok (.iload_n 3, 1) := by decide +kernel
theorem dL_law_103 : decode cL_law 103 = .ok (.aload_n 1, 1) := by decide +kernel
