theorem dL_refusesAny_737 : decode cL_refusesAny 737 = .ok (.if_icmp .ne 7, 3) := by decide +kernel
theorem dL_refusesAny_740 : decode cL_refusesAny 740 = .ok (.iconst 1, 1) := by decide +kernel
theorem dL_refusesAny_741 : decode cL_refusesAny 741 = .ok (.goto 4, 3) := by decide +kernel
theorem dL_refusesAny_744 : decode cL_refusesAny 744 = .ok (.iconst 0, 1) := by decide +kernel
theorem dL_refusesAny_745 : decode cL_refusesAny 745 = .ok (.ireturn, 1) := by decide +kernel
set_option maxRecDepth 20000 in
theorem ggL_refused_L_seen : GoodIn wsL_refused wsL_seen := goodIn_r _ [4, 5, 6, 7, 8, 9, 10, 11, 12, 13, 14, 15, 16, 17, 18, 19, 20, 21, 22, 23, 24, 25, 26, 27, 28, 29, 30, 31, 32, 33, 34, 35, 36, 37, 38, 39, 40, 41, 42, 43, 44, 45, 46, 47, 48, 49, 50, 51, 52, 53, 54, 55, 56, 57, 58, 59, 60, 61, 62, 63, 64, 65, 66, 67, 68, 69, 70, 71, 72, 73, 74, 75, 76, 77, 78, 79, 80, 81, 82, 83, 84, 85, 86, 87, 88, 89, 90, 91, 92, 93, 94, 95, 96, 97, 98, 99, 100, 101, 102, 103, 104, 105, 106, 107, 108, 109, 110, 111, 112, 113, 114, 115, 116, 117, 118, 119, 120, 121, 122, 123, 124, 125, 126, 127, 128, 129, 130, 131, 132, 133, 134, 135, 136, 137, 138, 139, 140, 141, 142, 143, 144, 145, 146, 147, 148, 149, 150, 151, 152, 153, 154, 443, 444, 445, 446, 447, 448, 449, 450, 451, 452, 453, 454, 455, 456, 457, 458, 459] (by decide +kernel) (by decide +kernel)
set_option maxRecDepth 20000 in
theorem gL_refused_L_seen : GoodIn wsL_refused (va_wsS RL 88 yL_seen wsL_seen) := goodIn_app (goodIn_of _ (by decide +kernel)) ggL_refused_L_seen
set_option maxRecDepth 20000 in
theorem ggL_refused_X7_count : GoodIn wsL_refused wsX7_count := goodIn_r _ [10, 11, 12, 13, 14, 15, 16, 17, 18, 19, 20, 21, 22, 23, 24, 25, 26, 27, 28, 29, 30, 31, 32, 33, 34, 35, 36, 37, 38, 39, 40, 41, 42, 43, 44, 45, 46, 47, 48, 49, 50, 51, 52, 53, 54, 55, 56, 57, 58, 59, 60, 61, 62, 63, 64, 65, 66, 67, 68, 69, 70, 71, 72, 73, 74, 75, 76, 77, 78, 79, 80, 81, 82, 83, 84, 85, 86, 87, 88, 89, 90, 91, 92, 93, 94, 95, 96, 97, 98, 99, 100, 101, 102, 103, 104, 105, 106, 107, 108, 109, 443, 444, 445, 446, 447, 448, 449, 450, 451, 452, 453, 454, 455, 456, 457, 458, 459] (by decide +kernel) (by decide +kernel)
set_option maxRecDepth 20000 in
theorem gL_refused_X7_count : GoodIn wsL_refused (wsV RL 11 RX7 yX7_count wsX7_count) := goodIn_app (goodIn_of _ (by decide +kernel)) ggL_refused_X7_count
set_option maxRecDepth 20000 in
theorem ggL_refused_L_refusesAny_0 : GoodIn wsL_refused wsL_refusesAny_r1 := goodIn_r wsL_refusesAny_r1 [158, 159, 160, 6, 7, 8, 9, 10, 11, 12, 13, 14, 15, 16, 17, 18, 19, 20, 21, 22, 23, 24, 25, 26] (by decide +kernel) (by decide +kernel)
set_option maxRecDepth 20000 in
theorem ggL_refused_L_refusesAny_2 : GoodIn wsL_refused wsL_refusesAny_r2 := goodIn_r wsL_refusesAny_r2 [27, 28, 29, 30, 31, 32, 33, 34, 35, 36, 37, 38, 39, 40, 41, 42, 43, 44, 45, 46, 47, 48, 49, 50] (by decide +kernel) (by decide +kernel)
set_option maxRecDepth 20000 in
theorem ggL_refused_L_refusesAny_4 : GoodIn wsL_refused wsL_refusesAny_r3 := goodIn_r wsL_refusesAny_r3 [51, 52, 53, 54, 55, 56, 57, 58, 59, 60, 61, 62, 63, 64, 65, 66, 67, 68, 69, 70, 71, 72, 73, 74] (by decide +kernel) (by decide +kernel)
set_option maxRecDepth 20000 in
theorem ggL_refused_L_refusesAny_6 : GoodIn wsL_refused wsL_refusesAny_r4 := goodIn_r wsL_refusesAny_r4 [75, 76, 77, 78, 79, 80, 81, 82, 83, 84, 85, 86, 87, 88, 89, 90, 91, 92, 93, 94, 95, 96, 97, 98] (by decide +kernel) (by decide +kernel)
set_option maxRecDepth 20000 in
theorem ggL_refused_L_refusesAny_8 : GoodIn wsL_refused wsL_refusesAny_r5 := goodIn_r wsL_refusesAny_r5 [99, 100, 101, 102, 103, 104, 105, 106, 107, 108, 109, 161, 162, 163, 164, 165, 166, 167, 168, 169, 170, 171, 172, 173] (by decide +kernel) (by decide +kernel)
set_option maxRecDepth 20000 in
theorem ggL_refused_L_refusesAny_10 : GoodIn wsL_refused wsL_refusesAny_r6 := goodIn_r wsL_refusesAny_r6 [174, 175, 176, 177, 178, 179, 123, 180, 181, 182, 183, 118, 184, 185, 186, 187, 188, 189, 190, 191, 192, 193, 194, 195] (by decide +kernel) (by decide +kernel)
set_option maxRecDepth 20000 in
theorem ggL_refused_L_refusesAny_12 : GoodIn wsL_refused wsL_refusesAny_r7 := goodIn_r wsL_refusesAny_r7 [196, 197, 198, 199, 135, 120, 121, 122, 124, 115, 116, 117, 200, 201, 202, 203, 204, 205, 206, 207, 208, 209, 210, 211] (by decide +kernel) (by decide +kernel)
set_option maxRecDepth 20000 in
theorem ggL_refused_L_refusesAny_14 : GoodIn wsL_refused wsL_refusesAny_r8 := goodIn_r wsL_refusesAny_r8 [212, 213, 214, 215, 114, 216, 217, 218, 219, 220, 221, 222, 223, 224, 225, 226, 227, 228, 229, 230, 231, 232, 233, 234] (by decide +kernel) (by decide +kernel)
set_option maxRecDepth 20000 in
theorem ggL_refused_L_refusesAny_16 : GoodIn wsL_refused wsL_refusesAny_r9 := goodIn_r wsL_refusesAny_r9 [235, 236, 237, 238, 239, 240, 241, 140, 141, 142, 153, 242, 243, 244, 245, 246, 247, 248, 249, 250, 251, 252, 253, 254] (by decide +kernel) (by decide +kernel)
set_option maxRecDepth 20000 in
theorem ggL_refused_L_refusesAny_18 : GoodIn wsL_refused wsL_refusesAny_r10 := goodIn_r wsL_refusesAny_r10 [255, 256, 257, 258, 259, 260, 261, 262, 263, 264, 265, 266, 267, 268, 269, 270, 271, 272, 273, 274, 275, 276, 277, 278] (by decide +kernel) (by decide +kernel)
set_option maxRecDepth 20000 in
theorem ggL_refused_L_refusesAny_20 : GoodIn wsL_refused wsL_refusesAny_r11 := goodIn_r wsL_refusesAny_r11 [279, 280, 281, 282, 283, 284, 110, 111, 112, 113, 119, 125, 126, 127, 128, 129, 130, 131, 132, 133, 134, 285, 286, 287] (by decide +kernel) (by decide +kernel)
set_option maxRecDepth 20000 in
theorem ggL_refused_L_refusesAny_22 : GoodIn wsL_refused wsL_refusesAny_r12 := goodIn_r wsL_refusesAny_r12 [288, 136, 137, 138, 139, 143, 144, 145, 146, 147, 148, 149, 150, 151, 152, 154, 289, 290, 291, 292, 293, 294, 295, 296] (by decide +kernel) (by decide +kernel)
set_option maxRecDepth 20000 in
theorem ggL_refused_L_refusesAny_24 : GoodIn wsL_refused wsL_refusesAny_r13 := goodIn_r wsL_refusesAny_r13 [297, 298, 299, 300, 301, 302, 303, 304, 305, 306, 307, 308, 309, 310, 311, 312, 313, 314, 315, 316, 317, 318, 319, 320] (by decide +kernel) (by decide +kernel)
set_option maxRecDepth 20000 in
theorem ggL_refused_L_refusesAny_26 : GoodIn wsL_refused wsL_refusesAny_r14 := goodIn_r wsL_refusesAny_r14 [321, 322, 323, 324, 325, 326, 327, 328, 329, 330, 331, 332, 333, 334, 335, 336, 337, 338, 339, 340, 341, 342, 343, 344] (by decide +kernel) (by decide +kernel)
set_option maxRecDepth 20000 in
theorem ggL_refused_L_refusesAny_28 : GoodIn wsL_refused wsL_refusesAny_r15 := goodIn_r wsL_refusesAny_r15 [345, 346, 347, 348, 349, 350, 351, 352, 353, 354, 355, 356, 357, 358, 359, 360, 361, 362, 363, 364, 365, 366, 367, 368] (by decide +kernel) (by decide +kernel)
set_option maxRecDepth 20000 in
theorem ggL_refused_L_refusesAny_30 : GoodIn wsL_refused wsL_refusesAny_r16 := goodIn_r wsL_refusesAny_r16 [369, 370, 371, 372, 373, 374, 375, 376, 377, 378, 379, 380, 381, 382, 383, 384, 385, 386, 387, 388, 389, 390, 391, 392] (by decide +kernel) (by decide +kernel)
set_option maxRecDepth 20000 in
theorem ggL_refused_L_refusesAny_32 : GoodIn wsL_refused wsL_refusesAny_r17 := goodIn_r wsL_refusesAny_r17 [393, 394, 395, 396, 397, 398, 399, 400, 401, 402, 403, 404, 405, 406, 407, 408, 409, 410, 411, 412, 413, 414, 415, 416] (by decide +kernel) (by decide +kernel)
set_option maxRecDepth 20000 in
theorem ggL_refused_L_refusesAny_34 : GoodIn wsL_refused wsL_refusesAny_r18 := goodIn_r wsL_refusesAny_r18 [417, 418, 419, 420, 421, 422, 423, 424, 425, 426, 427, 428, 429, 430, 431, 432, 433, 434, 435, 436, 437, 438, 439, 440] (by decide +kernel) (by decide +kernel)
set_option maxRecDepth 20000 in
theorem ggL_refused_L_refusesAny_36 : GoodIn wsL_refused wsL_refusesAny_r19 := goodIn_r wsL_refusesAny_r19 [441, 442] (by decide +kernel) (by decide +kernel)
set_option maxRecDepth 20000 in
theorem ggL_refused_L_refusesAny_38 : GoodIn wsL_refused wsX70 := goodIn_r wsX70 [443, 444, 445, 446] (by decide +kernel) (by decide +kernel)
set_option maxRecDepth 20000 in
theorem ggL_refused_L_refusesAny_40 : GoodIn wsL_refused wsX50 := goodIn_r wsX50 [447, 448] (by decide +kernel) (by decide +kernel)
set_option maxRecDepth 20000 in
theorem ggL_refused_L_refusesAny_42 : GoodIn wsL_refused wsX30 := goodIn_r wsX30 [449, 450, 451, 452, 453, 454] (by decide +kernel) (by decide +kernel)
set_option maxRecDepth 20000 in
theorem ggL_refused_L_refusesAny_44 : GoodIn wsL_refused wsX20 := goodIn_r wsX20 [455, 456, 457] (by decide +kernel) (by decide +kernel)
set_option maxRecDepth 20000 in
theorem ggL_refused_L_refusesAny_46 : GoodIn wsL_refused wsX00 := goodIn_r wsX00 [458, 459] (by decide +kernel) (by decide +kernel)
set_option maxRecDepth 20000 in
theorem ggL_refused_L_refusesAny_48 : GoodIn wsL_refused wsX60 := goodIn_r wsX60 [460, 461, 462, 463] (by decide +kernel) (by decide +kernel)
set_option maxRecDepth 20000 in
theorem ggL_refused_L_refusesAny_50 : GoodIn wsL_refused wsX40 := goodIn_r wsX40 [464, 465] (by decide +kernel) (by decide +kernel)
theorem ggL_refused_L_refusesAny : GoodIn wsL_refused wsL_refusesAny := goodIn_app (b := ((wsL_refusesAny_r1 ++ (wsL_refusesAny_r2 ++ (wsL_refusesAny_r3 ++ (wsL_refusesAny_r4 ++ (wsL_refusesAny_r5 ++ (wsL_refusesAny_r6 ++ (wsL_refusesAny_r7 ++ (wsL_refusesAny_r8 ++ (wsL_refusesAny_r9 ++ (wsL_refusesAny_r10 ++ (wsL_refusesAny_r11 ++ (wsL_refusesAny_r12 ++ (wsL_refusesAny_r13 ++ (wsL_refusesAny_r14 ++ (wsL_refusesAny_r15 ++ (wsL_refusesAny_r16 ++ (wsL_refusesAny_r17 ++ (wsL_refusesAny_r18 ++ wsL_refusesAny_r19)))))))))))))))))) ++ wsX70 ++ wsX50 ++ wsX30 ++ wsX20 ++ wsX00 ++ wsX60 ++ wsX40)) (good_at (w := .code yL_refusesAny cL_refusesAny 5 (some .boolean)) 157 rfl rfl) (goodIn_app (goodIn_app (goodIn_app (goodIn_app (goodIn_app (goodIn_app (goodIn_app (goodIn_app ggL_refused_L_refusesAny_0 (goodIn_app ggL_refused_L_refusesAny_2 (goodIn_app ggL_refused_L_refusesAny_4 (goodIn_app ggL_refused_L_refusesAny_6 (goodIn_app ggL_refused_L_refusesAny_8 (goodIn_app ggL_refused_L_refusesAny_10 (goodIn_app ggL_refused_L_refusesAny_12 (goodIn_app ggL_refused_L_refusesAny_14 (goodIn_app ggL_refused_L_refusesAny_16 (goodIn_app ggL_refused_L_refusesAny_18 (goodIn_app ggL_refused_L_refusesAny_20 (goodIn_app ggL_refused_L_refusesAny_22 (goodIn_app ggL_refused_L_refusesAny_24 (goodIn_app ggL_refused_L_refusesAny_26 (goodIn_app ggL_refused_L_refusesAny_28 (goodIn_app ggL_refused_L_refusesAny_30 (goodIn_app ggL_refused_L_refusesAny_32 (goodIn_app ggL_refused_L_refusesAny_34 ggL_refused_L_refusesAny_36)))))))))))))))))) ggL_refused_L_refusesAny_38) ggL_refused_L_refusesAny_40) ggL_refused_L_refusesAny_42) ggL_refused_L_refusesAny_44) ggL_refused_L_refusesAny_46) ggL_refused_L_refusesAny_48) ggL_refused_L_refusesAny_50)
set_option maxRecDepth 20000 in
theorem gL_refused_L_refusesAny : GoodIn wsL_refused (va_wsS RL 92 yL_refusesAny wsL_refusesAny) := goodIn_app (goodIn_of _ (by decide +kernel)) ggL_refused_L_refusesAny
theorem dL_refused_0 : decode cL_refused 0 = .ok (.aload_n 0, 1) := by decide +kernel
theorem dL_refused_1 : decode cL_refused 1 = .ok (.invokestatic 88, 3) := by decide +kernel
theorem dL_refused_4 : decode cL_refused 4 = .ok (.lstore_n 1, 1) := by decide +kernel
theorem dL_refused_5 : decode cL_refused 5 = .ok (.aload_n 0, 1) := by decide +kernel
theorem dL_refused_6 : decode cL_refused 6 = .ok (.bipush 10, 2) := by decide +kernel
theorem dL_refused_8 : decode cL_refused 8 = .ok (.invokevirtual 11, 3) := by decide +kernel
theorem dL_refused_11 : decode cL_refused 11 = .ok (.istore_n 3, 1) := by decide +kernel
theorem dL_refused_12 : decode cL_refused 12 = .ok (.aload_n 0, 1) := by decide +kernel
theorem dL_refused_13 : decode cL_refused 13 = .ok (.iconst 0, 1) := by decide +kernel
theorem dL_refused_14 : decode cL_refused 14 = .ok (.invokestatic 92, 3) := by decide +kernel
theorem dL_refused_17 : decode cL_refused 17 = .ok (.ifCond .eq 34, 3) := by decide +kernel
theorem dL_refused_20 : decode cL_refused 20 = .ok (.aload_n 0, 1) := by decide +kernel
theorem dL_refused_21 : decode cL_refused 21 = .ok (.iconst 1, 1) := by decide +kernel
theorem dL_refused_22 : decode cL_refused 22 = .ok (.invokestatic 92, 3) := by decide +kernel
theorem dL_refused_25 : decode cL_refused 25 = .ok (.ifCond .eq 26, 3) := by decide +kernel
theorem dL_refused_28 : decode cL_refused 28 = .ok (.aload_n 0, 1) := by decide +kernel
theorem dL_refused_29 : decode cL_refused 29 = .ok (.invokestatic 88, 3) := by decide +kernel
theorem dL_refused_32 : decode cL_refused 32 = .ok (.lload_n 1, 1) := by decide +kernel
theorem dL_refused_33 : decode cL_refused 33 = .ok (.lcmp, 1) := by decide +kernel
theorem dL_refused_34 : decode cL_refused 34 = .ok (.ifCond .ne 17, 3) := by decide +kernel
theorem dL_refused_37 : decode cL_refused 37 = .ok (.aload_n 0, 1) := by decide +kernel
theorem dL_refused_38 : decode cL_refused 38 = .ok (.bipush 10, 2) := by decide +kernel
theorem dL_refused_40 : decode cL_refused 40 = .ok (.invokevirtual 11, 3) := by decide +kernel
theorem dL_refused_43 : decode cL_refused 43 = .ok (.iload_n 3, 1) := by decide +kernel
theorem dL_refused_44 : decode cL_refused 44 = .ok (.if_icmp .ne 7, 3) := by decide +kernel
theorem dL_refused_47 : decode cL_refused 47 = .ok (.iconst 1, 1) := by decide +kernel
theorem dL_refused_48 : decode cL_refused 48 = .ok (.goto 4, 3) := by decide +kernel
theorem dL_refused_51 : decode cL_refused 51 = .ok (.iconst 0, 1) := by decide +kernel
theorem dL_refused_52 : decode cL_refused 52 = .ok (.ireturn, 1) := by decide +kernel
set_option maxRecDepth 20000 in
theorem ggL_corner_X7_init : GoodIn wsL_corner wsX7_init := goodIn_r _ [6, 7, 8, 9, 10, 11, 12, 13, 14, 15, 16, 17, 18, 19, 20, 21, 22, 23, 24, 25, 26, 27, 28, 29, 30, 31, 32, 33, 34, 35, 36, 37, 38, 39, 40, 41, 42, 43, 44, 45, 46, 47, 48, 49, 50, 51, 52, 53, 54, 55, 56, 57, 58, 59, 60, 496, 497, 492, 493, 494, 495, 498, 499, 500, 501, 502, 503, 504, 505, 506, 507, 508, 509, 510] (by decide +kernel) (by decide +kernel)
set_option maxRecDepth 20000 in
theorem gL_corner_X7_init : GoodIn wsL_corner (wsX7_init) := ggL_corner_X7_init
set_option maxRecDepth 20000 in
theorem ggL_corner_X7_undo : GoodIn wsL_corner wsX7_undo := goodIn_r _ [64, 17, 65, 13, 66, 67, 68, 16, 69, 70, 71, 72, 73, 74, 47, 75, 76, 77, 12, 78, 32, 79, 80, 81, 82, 83, 84, 85, 86, 31, 87, 38, 88, 89, 90, 91, 92, 93, 94, 95, 96, 34, 97, 98, 99, 100, 101, 102, 103, 104, 105, 106, 107, 108, 39, 109, 40, 41, 492, 493, 494, 495, 498, 499, 496, 497, 505, 506, 507, 508, 509, 510] (by decide +kernel) (by decide +kernel)
set_option maxRecDepth 20000 in
theorem gL_corner_X7_undo : GoodIn wsL_corner (wsV RL 97 RX7 yX7_undo wsX7_undo) := goodIn_app (goodIn_of _ (by decide +kernel)) ggL_corner_X7_undo
set_option maxRecDepth 20000 in
theorem ggL_corner_X7_restore : GoodIn wsL_corner wsX7_restore := goodIn_r _ [113, 21, 17, 13, 114, 115, 116, 117, 20, 118, 119, 120, 121, 122, 55, 123, 124, 125, 126, 16, 127, 70, 47, 128, 129, 130, 131, 132, 102, 103, 31, 104, 38, 105, 106, 107, 108, 39, 92, 109, 40, 41, 133, 134, 135, 136, 53, 75, 76, 77, 12, 78, 32, 79, 80, 81, 82, 83, 84, 85, 86, 87, 88, 89, 90, 91, 93, 94, 95, 96, 34, 97, 98, 99, 100, 101, 492, 493, 494, 495, 496, 497, 505, 506, 507, 508, 509, 510, 500, 501, 498, 499] (by decide +kernel) (by decide +kernel)
set_option maxRecDepth 20000 in
theorem gL_corner_X7_restore : GoodIn wsL_corner (wsV RL 75 RX7 yX7_restore wsX7_restore) := goodIn_app (goodIn_of _ (by decide +kernel)) ggL_corner_X7_restore
set_option maxRecDepth 20000 in
theorem ggL_corner_X7_count : GoodIn wsL_corner wsX7_count := goodIn_r _ [140, 13, 114, 115, 141, 142, 143, 25, 144, 17, 65, 145, 146, 147, 12, 148, 149, 150, 151, 152, 153, 154, 155, 32, 156, 157, 158, 159, 160, 161, 34, 162, 163, 164, 31, 165, 166, 167, 168, 169, 109, 39, 170, 171, 172, 173, 174, 175, 176, 177, 72, 73, 74, 178, 179, 180, 181, 182, 183, 184, 185, 186, 187, 188, 189, 99, 190, 191, 192, 193, 194, 195, 196, 197, 198, 199, 200, 201, 202, 203, 204, 205, 206, 207, 208, 209, 210, 211, 212, 213, 214, 98, 100, 215, 216, 217, 218, 219, 97, 220, 492, 493, 494, 495, 496, 497, 505, 506, 507, 508, 509, 510, 502, 503, 504, 498, 499] (by decide +kernel) (by decide +kernel)
set_option maxRecDepth 20000 in
theorem gL_corner_X7_count : GoodIn wsL_corner (wsV RL 11 RX7 yX7_count wsX7_count) := goodIn_app (goodIn_of _ (by decide +kernel)) ggL_corner_X7_count
set_option maxRecDepth 20000 in
theorem ggL_corner_X7_leafAt : GoodIn wsL_corner wsX7_leafAt := goodIn_r _ [224, 13, 225, 209, 99, 210, 226, 212, 213, 227, 228, 229, 12, 230, 216, 217, 218, 219, 97, 98, 100, 152, 153, 154, 155, 32, 156, 157, 158, 159, 160, 161, 34, 162, 163, 164, 31, 165, 166, 167, 168, 169, 109, 39, 492, 493, 494, 495, 496, 497, 505, 506, 507, 508, 509, 510] (by decide +kernel) (by decide +kernel)
set_option maxRecDepth 20000 in
theorem gL_corner_X7_leafAt : GoodIn wsL_corner (wsV RL 47 RX7 yX7_leafAt wsX7_leafAt) := goodIn_app (goodIn_of _ (by decide +kernel)) ggL_corner_X7_leafAt
set_option maxRecDepth 20000 in
theorem ggL_corner_X7_tile : GoodIn wsL_corner wsX7_tile := goodIn_r _ [234, 13, 114, 235, 236, 99, 237, 238, 197, 198, 199, 200, 201, 202, 203, 204, 239, 206, 207, 240, 194, 195, 241, 159, 160, 12, 161, 34, 242, 243, 244, 245, 246, 247, 248, 249, 97, 98, 100, 152, 153, 154, 155, 32, 156, 157, 158, 162, 163, 164, 31, 165, 166, 167, 168, 169, 109, 39, 250, 251, 150, 151, 149, 492, 493, 494, 495, 496, 497, 505, 506, 507, 508, 509, 510] (by decide +kernel) (by decide +kernel)
set_option maxRecDepth 20000 in
theorem gL_corner_X7_tile : GoodIn wsL_corner (wsV RL 21 RX7 yX7_tile wsX7_tile) := goodIn_app (goodIn_of _ (by decide +kernel)) ggL_corner_X7_tile
set_option maxRecDepth 20000 in
theorem ggL_corner_X7_beside : GoodIn wsL_corner wsX7_beside := goodIn_r _ [255, 13, 235, 236, 99, 237, 256, 189, 190, 191, 192, 193, 194, 195, 196, 197, 198, 199, 200, 201, 202, 203, 204, 205, 206, 207, 208, 209, 210, 211, 212, 213, 214, 98, 100, 257, 258, 259, 12, 260, 261, 262, 73, 263, 215, 216, 217, 218, 219, 97, 152, 153, 154, 155, 32, 156, 157, 158, 159, 160, 161, 34, 162, 163, 164, 31, 165, 166, 167, 168, 169, 109, 39, 492, 493, 494, 495, 496, 497, 505, 506, 507, 508, 509, 510] (by decide +kernel) (by decide +kernel)
set_option maxRecDepth 20000 in
theorem gL_corner_X7_beside : GoodIn wsL_corner (wsV RL 53 RX7 yX7_beside wsX7_beside) := goodIn_app (goodIn_of _ (by decide +kernel)) ggL_corner_X7_beside
set_option maxRecDepth 20000 in
theorem ggL_corner_X7_neighbours : GoodIn wsL_corner wsX7_neighbours := goodIn_r _ [267, 13, 235, 236, 99, 237, 242, 243, 244, 12, 245, 246, 247, 248, 249, 97, 98, 100, 152, 153, 154, 155, 32, 156, 157, 158, 159, 160, 161, 34, 162, 163, 164, 31, 165, 166, 167, 168, 169, 109, 39, 268, 269, 270, 271, 188, 189, 190, 191, 192, 193, 194, 195, 196, 197, 198, 199, 200, 201, 202, 203, 204, 205, 206, 207, 208, 209, 210, 211, 212, 213, 214, 272, 273, 274, 275, 276, 492, 493, 494, 495, 496, 497, 505, 506, 507, 508, 509, 510] (by decide +kernel) (by decide +kernel)
set_option maxRecDepth 20000 in
theorem gL_corner_X7_neighbours : GoodIn wsL_corner (wsV RL 56 RX7 yX7_neighbours wsX7_neighbours) := goodIn_app (goodIn_of _ (by decide +kernel)) ggL_corner_X7_neighbours
set_option maxRecDepth 20000 in
theorem ggL_corner_X7_nearest : GoodIn wsL_corner wsX7_nearest := goodIn_r _ [280, 13, 114, 115, 225, 209, 99, 210, 281, 85, 86, 31, 87, 38, 88, 89, 90, 91, 92, 282, 283, 284, 196, 197, 198, 199, 200, 201, 202, 203, 204, 205, 206, 207, 492, 493, 494, 495, 496, 497, 505, 506, 507, 508, 509, 510] (by decide +kernel) (by decide +kernel)
set_option maxRecDepth 20000 in
theorem gL_corner_X7_nearest : GoodIn wsL_corner (wsV RL 63 RX7 yX7_nearest wsX7_nearest) := goodIn_app (goodIn_of _ (by decide +kernel)) ggL_corner_X7_nearest
set_option maxRecDepth 20000 in
theorem ggL_corner_X7_leastFull : GoodIn wsL_corner wsX7_leastFull := goodIn_r _ [288, 13, 289, 290, 291, 12, 292, 32, 157, 174, 146, 147, 148, 149, 150, 151, 152, 153, 154, 155, 156, 158, 159, 160, 161, 34, 162, 163, 164, 31, 165, 166, 167, 168, 169, 109, 39, 492, 493, 494, 495, 496, 497, 505, 506, 507, 508, 509, 510] (by decide +kernel) (by decide +kernel)
set_option maxRecDepth 20000 in
theorem gL_corner_X7_leastFull : GoodIn wsL_corner (wsV RL 69 RX7 yX7_leastFull wsX7_leastFull) := goodIn_app (goodIn_of _ (by decide +kernel)) ggL_corner_X7_leastFull
set_option maxRecDepth 20000 in
theorem ggL_corner_X7_point : GoodIn wsL_corner wsX7_point := goodIn_r _ [296, 13, 114, 17, 225, 209, 99, 210, 226, 212, 213, 297, 298, 299, 31, 300, 92, 301, 302, 303, 304, 305, 85, 86, 87, 38, 88, 89, 90, 91, 124, 125, 126, 16, 127, 70, 47, 128, 129, 130, 131, 132, 102, 103, 104, 105, 106, 107, 108, 39, 109, 40, 41, 306, 307, 308, 12, 309, 32, 310, 311, 312, 313, 93, 94, 95, 96, 34, 97, 98, 100, 145, 146, 147, 148, 149, 150, 151, 152, 153, 154, 155, 156, 157, 158, 159, 160, 161, 162, 163, 164, 165, 166, 167, 168, 169, 492, 493, 494, 495, 496, 497, 505, 506, 507, 508, 509, 510, 498, 499] (by decide +kernel) (by decide +kernel)
set_option maxRecDepth 20000 in
theorem gL_corner_X7_point : GoodIn wsL_corner (wsV RL 29 RX7 yX7_point wsX7_point) := goodIn_app (goodIn_of _ (by decide +kernel)) ggL_corner_X7_point
set_option maxRecDepth 20000 in
theorem ggL_corner_X7_of : GoodIn wsL_corner wsX7_of := goodIn_r _ [317, 13, 114, 318, 89, 90, 31, 91, 92, 281, 85, 86, 87, 38, 88, 238, 197, 99, 198, 199, 200, 201, 202, 203, 204, 239, 206, 207, 227, 228, 229, 12, 230, 216, 217, 218, 219, 97, 98, 100, 152, 153, 154, 155, 32, 156, 157, 158, 159, 160, 161, 34, 162, 163, 164, 165, 166, 167, 168, 169, 109, 39, 319, 320, 321, 322, 305, 492, 493, 494, 495, 496, 497, 505, 506, 507, 508, 509, 510] (by decide +kernel) (by decide +kernel)
set_option maxRecDepth 20000 in
theorem gL_corner_X7_of : GoodIn wsL_corner (wsV RL 17 RX7 yX7_of wsX7_of) := goodIn_app (goodIn_of _ (by decide +kernel)) ggL_corner_X7_of
set_option maxRecDepth 20000 in
theorem ggL_corner_L_refused_0 : GoodIn wsL_corner wsL_refused_r1 := goodIn_r wsL_refused_r1 [327, 328, 325, 329, 330, 137, 138, 139, 3, 140, 13, 114, 115, 141, 142, 143, 25, 144, 17, 65, 145, 146, 147, 12] (by decide +kernel) (by decide +kernel)
set_option maxRecDepth 20000 in
theorem ggL_corner_L_refused_2 : GoodIn wsL_corner wsL_refused_r2 := goodIn_r wsL_refused_r2 [148, 149, 150, 151, 152, 153, 154, 155, 32, 156, 157, 158, 159, 160, 161, 34, 162, 163, 164, 31, 165, 166, 167, 168] (by decide +kernel) (by decide +kernel)
set_option maxRecDepth 20000 in
theorem ggL_corner_L_refused_4 : GoodIn wsL_corner wsL_refused_r3 := goodIn_r wsL_refused_r3 [169, 109, 39, 170, 171, 172, 173, 174, 175, 176, 177, 72, 73, 74, 178, 179, 180, 181, 182, 183, 184, 185, 186, 187] (by decide +kernel) (by decide +kernel)
set_option maxRecDepth 20000 in
theorem ggL_corner_L_refused_6 : GoodIn wsL_corner wsL_refused_r4 := goodIn_r wsL_refused_r4 [188, 189, 99, 190, 191, 192, 193, 194, 195, 196, 197, 198, 199, 200, 201, 202, 203, 204, 205, 206, 207, 208, 209, 210] (by decide +kernel) (by decide +kernel)
set_option maxRecDepth 20000 in
theorem ggL_corner_L_refused_8 : GoodIn wsL_corner wsL_refused_r5 := goodIn_r wsL_refused_r5 [211, 212, 213, 214, 98, 100, 215, 216, 217, 218, 219, 97, 220, 314, 315, 316, 317, 318, 89, 90, 91, 92, 281, 85] (by decide +kernel) (by decide +kernel)
set_option maxRecDepth 20000 in
theorem ggL_corner_L_refused_10 : GoodIn wsL_corner wsL_refused_r6 := goodIn_r wsL_refused_r6 [86, 87, 38, 88, 238, 239, 227, 228, 229, 230, 319, 320, 321, 322, 305, 231, 232, 233, 234, 235, 236, 237, 240, 241] (by decide +kernel) (by decide +kernel)
set_option maxRecDepth 20000 in
theorem ggL_corner_L_refused_12 : GoodIn wsL_corner wsL_refused_r7 := goodIn_p wsL_refused_r7 [245, 249, 333, 340] (by rfl) (by decide +kernel)
set_option maxRecDepth 20000 in
theorem ggL_corner_L_refused_14 : GoodIn wsL_corner wsL_refused_r8 := goodIn_r wsL_refused_r8 [127, 70, 47, 128, 129, 130, 131, 132, 102, 103, 104, 105, 106, 107, 108, 40, 41, 293, 294, 295, 296, 225, 226, 297] (by decide +kernel) (by decide +kernel)
set_option maxRecDepth 20000 in
theorem ggL_corner_L_refused_16 : GoodIn wsL_corner wsL_refused_r9 := goodIn_r wsL_refused_r9 [298, 299, 300, 301, 302, 303, 304, 306, 307, 308, 309, 310, 311, 312, 313, 93, 94, 95, 96, 341, 342, 343, 344, 345] (by decide +kernel) (by decide +kernel)
set_option maxRecDepth 20000 in
theorem ggL_corner_L_refused_18 : GoodIn wsL_corner wsL_refused_r10 := goodIn_r wsL_refused_r10 [346, 347, 348, 84, 349, 350, 351, 352, 353, 354, 355, 356, 357, 358, 359, 360, 361, 362, 363, 364, 365, 366, 367, 368] (by decide +kernel) (by decide +kernel)
set_option maxRecDepth 20000 in
theorem ggL_corner_L_refused_20 : GoodIn wsL_corner wsL_refused_r11 := goodIn_r wsL_refused_r11 [369, 370, 371, 372, 373, 374, 375, 376, 377, 378, 379, 380, 381, 382, 383, 384, 24, 385, 386, 387, 388, 389, 390, 59] (by decide +kernel) (by decide +kernel)
set_option maxRecDepth 20000 in
theorem ggL_corner_L_refused_22 : GoodIn wsL_corner wsL_refused_r12 := goodIn_r wsL_refused_r12 [391, 392, 393, 394, 395, 396, 397, 398, 399, 400, 60, 401, 402, 403, 404, 405, 406, 407, 408, 409, 221, 222, 223, 224] (by decide +kernel) (by decide +kernel)
set_option maxRecDepth 20000 in
theorem ggL_corner_L_refused_24 : GoodIn wsL_corner wsL_refused_r13 := goodIn_r wsL_refused_r13 [410, 411, 412, 413, 414, 252, 253, 254, 255, 256, 257, 258, 259, 260, 261, 262, 263, 264, 265, 266, 267, 268, 269, 270] (by decide +kernel) (by decide +kernel)
set_option maxRecDepth 20000 in
theorem ggL_corner_L_refused_26 : GoodIn wsL_corner wsL_refused_r14 := goodIn_r wsL_refused_r14 [271, 272, 273, 274, 275, 276, 415, 416, 417, 418, 419, 420, 421, 422, 423, 424, 425, 8, 9, 426, 427, 428, 429, 430] (by decide +kernel) (by decide +kernel)
set_option maxRecDepth 20000 in
theorem ggL_corner_L_refused_28 : GoodIn wsL_corner wsL_refused_r15 := goodIn_r wsL_refused_r15 [431, 432, 433, 434, 435, 436, 437, 438, 439, 440, 441, 442, 443, 444, 445, 446, 447, 448, 449, 450, 451, 452, 453, 454] (by decide +kernel) (by decide +kernel)
set_option maxRecDepth 20000 in
theorem ggL_corner_L_refused_30 : GoodIn wsL_corner wsL_refused_r16 := goodIn_r wsL_refused_r16 [455, 456, 277, 278, 279, 280, 282, 283, 284, 457, 458, 459, 460, 461, 462, 463, 464, 465, 466, 467, 468, 285, 286, 287] (by decide +kernel) (by decide +kernel)
set_option maxRecDepth 20000 in
theorem ggL_corner_L_refused_32 : GoodIn wsL_corner wsL_refused_r17 := goodIn_r wsL_refused_r17 [288, 289, 290, 291, 292, 469, 470, 471, 472, 21, 116, 117, 20, 118, 473, 474, 475, 476, 53, 55, 123, 477, 110, 111] (by decide +kernel) (by decide +kernel)
set_option maxRecDepth 20000 in
theorem ggL_corner_L_refused_34 : GoodIn wsL_corner wsL_refused_r18 := goodIn_r wsL_refused_r18 [112, 113, 119, 120, 121, 122, 133, 134, 135, 136, 75, 76, 77, 78, 79, 80, 81, 82, 83, 101, 478, 479, 480, 481] (by decide +kernel) (by decide +kernel)
set_option maxRecDepth 20000 in
theorem ggL_corner_L_refused_36 : GoodIn wsL_corner wsL_refused_r19 := goodIn_r wsL_refused_r19 [482, 483, 484, 485, 486, 487, 488, 489, 490, 491] (by decide +kernel) (by decide +kernel)
set_option maxRecDepth 20000 in
theorem ggL_corner_L_refused_38 : GoodIn wsL_corner wsX70 := goodIn_r wsX70 [492, 493, 494, 495] (by decide +kernel) (by decide +kernel)
set_option maxRecDepth 20000 in
theorem ggL_corner_L_refused_40 : GoodIn wsL_corner wsX50 := goodIn_r wsX50 [496, 497] (by decide +kernel) (by decide +kernel)
set_option maxRecDepth 20000 in
theorem ggL_corner_L_refused_42 : GoodIn wsL_corner wsX30 := goodIn_r wsX30 [505, 506, 507, 508, 509, 510] (by decide +kernel) (by decide +kernel)
set_option maxRecDepth 20000 in
theorem ggL_corner_L_refused_44 : GoodIn wsL_corner wsX20 := goodIn_r wsX20 [502, 503, 504] (by decide +kernel) (by decide +kernel)
set_option maxRecDepth 20000 in
theorem ggL_corner_L_refused_46 : GoodIn wsL_corner wsX00 := goodIn_r wsX00 [498, 499] (by decide +kernel) (by decide +kernel)
set_option maxRecDepth 20000 in
theorem ggL_corner_L_refused_48 : GoodIn wsL_corner wsX60 := goodIn_r wsX60 [511, 512, 513, 514] (by decide +kernel) (by decide +kernel)
set_option maxRecDepth 20000 in
theorem ggL_corner_L_refused_50 : GoodIn wsL_corner wsX40 := goodIn_r wsX40 [500, 501] (by decide +kernel) (by decide +kernel)
theorem ggL_corner_L_refused : GoodIn wsL_corner wsL_refused := goodIn_app (b := ((wsL_refused_r1 ++ (wsL_refused_r2 ++ (wsL_refused_r3 ++ (wsL_refused_r4 ++ (wsL_refused_r5 ++ (wsL_refused_r6 ++ (wsL_refused_r7 ++ (wsL_refused_r8 ++ (wsL_refused_r9 ++ (wsL_refused_r10 ++ (wsL_refused_r11 ++ (wsL_refused_r12 ++ (wsL_refused_r13 ++ (wsL_refused_r14 ++ (wsL_refused_r15 ++ (wsL_refused_r16 ++ (wsL_refused_r17 ++ (wsL_refused_r18 ++ wsL_refused_r19)))))))))))))))))) ++ wsX70 ++ wsX50 ++ wsX30 ++ wsX20 ++ wsX00 ++ wsX60 ++ wsX40)) (good_at (w := .code yL_refused cL_refused 4 (some .boolean)) 326 rfl rfl) (goodIn_app (goodIn_app (goodIn_app (goodIn_app (goodIn_app (goodIn_app (goodIn_app (goodIn_app ggL_corner_L_refused_0 (goodIn_app ggL_corner_L_refused_2 (goodIn_app ggL_corner_L_refused_4 (goodIn_app ggL_corner_L_refused_6 (goodIn_app ggL_corner_L_refused_8 (goodIn_app ggL_corner_L_refused_10 (goodIn_app ggL_corner_L_refused_12 (goodIn_app ggL_corner_L_refused_14 (goodIn_app ggL_corner_L_refused_16 (goodIn_app ggL_corner_L_refused_18 (goodIn_app ggL_corner_L_refused_20 (goodIn_app ggL_corner_L_refused_22 (goodIn_app ggL_corner_L_refused_24 (goodIn_app ggL_corner_L_refused_26 (goodIn_app ggL_corner_L_refused_28 (goodIn_app ggL_corner_L_refused_30 (goodIn_app ggL_corner_L_refused_32 (goodIn_app ggL_corner_L_refused_34 ggL_corner_L_refused_36)))))))))))))))))) ggL_corner_L_refused_38) ggL_corner_L_refused_40) ggL_corner_L_refused_42) ggL_corner_L_refused_44) ggL_corner_L_refused_46) ggL_corner_L_refused_48) ggL_corner_L_refused_50)
set_option maxRecDepth 20000 in
theorem gL_corner_L_refused : GoodIn wsL_corner (va_wsS RL 100 yL_refused wsL_refused) := goodIn_app (goodIn_of _ (by decide +kernel)) ggL_corner_L_refused
set_option maxRecDepth 20000 in
theorem ggL_corner_X7_ifPut : GoodIn wsL_corner wsX7_ifPut := goodIn_r _ [460, 13, 114, 225, 209, 99, 210, 226, 212, 213, 297, 298, 299, 31, 300, 92, 301, 302, 303, 304, 305, 85, 86, 87, 38, 88, 89, 90, 91, 461, 462, 463, 12, 464, 93, 94, 95, 96, 34, 97, 98, 100, 174, 146, 147, 148, 149, 150, 151, 152, 153, 154, 155, 32, 156, 157, 158, 159, 160, 161, 162, 163, 164, 165, 166, 167, 168, 169, 109, 39, 465, 466, 467, 468, 216, 217, 218, 219, 492, 493, 494, 495, 496, 497, 505, 506, 507, 508, 509, 510] (by decide +kernel) (by decide +kernel)
set_option maxRecDepth 20000 in
theorem gL_corner_X7_ifPut : GoodIn wsL_corner (wsV RL 66 RX7 yX7_ifPut wsX7_ifPut) := goodIn_app (goodIn_of _ (by decide +kernel)) ggL_corner_X7_ifPut
set_option maxRecDepth 20000 in
theorem ggL_corner_X7_window : GoodIn wsL_corner wsX7_window := goodIn_r _ [418, 419, 420, 421, 13, 114, 225, 209, 99, 210, 422, 423, 424, 425, 8, 9, 426, 427, 428, 429, 430, 431, 432, 31, 433, 92, 305, 85, 86, 87, 38, 88, 89, 90, 91, 434, 435, 436, 437, 438, 197, 198, 199, 200, 201, 202, 203, 204, 439, 206, 207, 440, 194, 195, 441, 12, 442, 443, 152, 153, 154, 155, 32, 156, 157, 158, 159, 160, 161, 34, 162, 163, 164, 165, 166, 167, 168, 169, 109, 39, 444, 445, 446, 447, 448, 449, 450, 451, 452, 453, 454, 455, 456, 212, 213, 216, 217, 218, 219, 97, 98, 100, 511, 512, 513, 514, 492, 493, 494, 495, 496, 497, 505, 506, 507, 508, 509, 510] (by decide +kernel) (by decide +kernel)
set_option maxRecDepth 20000 in
theorem gL_corner_X7_window : GoodIn wsL_corner (wsV RL 59 RX7 yX7_window wsX7_window) := goodIn_app (goodIn_of _ (by decide +kernel)) ggL_corner_X7_window
set_option maxRecDepth 20000 in
theorem ggL_corner_X7_set : GoodIn wsL_corner wsX7_set := goodIn_r _ [340, 13, 114, 17, 142, 143, 124, 125, 126, 16, 127, 70, 47, 128, 129, 130, 131, 132, 102, 103, 31, 104, 38, 105, 106, 107, 108, 39, 92, 109, 40, 41, 492, 493, 494, 495, 496, 497, 505, 506, 507, 508, 509, 510, 498, 499] (by decide +kernel) (by decide +kernel)
set_option maxRecDepth 20000 in
theorem gL_corner_X7_set : GoodIn wsL_corner (wsV RL 24 RX7 yX7_set wsX7_set) := goodIn_app (goodIn_of _ (by decide +kernel)) ggL_corner_X7_set
set_option maxRecDepth 20000 in
theorem ggL_corner_X7_split : GoodIn wsL_corner wsX7_split := goodIn_r _ [369, 13, 114, 141, 17, 235, 236, 99, 237, 250, 163, 164, 31, 165, 166, 167, 168, 169, 109, 39, 124, 125, 126, 16, 127, 70, 47, 128, 129, 130, 131, 132, 102, 103, 104, 38, 105, 106, 107, 108, 92, 40, 41, 370, 371, 372, 373, 374, 375, 376, 377, 145, 146, 147, 12, 148, 149, 150, 151, 152, 153, 154, 155, 32, 156, 157, 158, 159, 160, 161, 34, 162, 492, 493, 494, 495, 496, 497, 505, 506, 507, 508, 509, 510, 498, 499] (by decide +kernel) (by decide +kernel)
set_option maxRecDepth 20000 in
theorem gL_corner_X7_split : GoodIn wsL_corner (wsV RL 39 RX7 yX7_split wsX7_split) := goodIn_app (goodIn_of _ (by decide +kernel)) ggL_corner_X7_split
set_option maxRecDepth 20000 in
theorem ggL_corner_X7_take : GoodIn wsL_corner wsX7_take := goodIn_r _ [344, 13, 114, 17, 318, 89, 90, 31, 91, 92, 124, 125, 126, 16, 127, 70, 47, 128, 129, 130, 131, 132, 102, 103, 104, 38, 105, 106, 107, 108, 39, 109, 40, 41, 345, 346, 347, 12, 348, 32, 84, 85, 86, 87, 88, 93, 94, 95, 96, 34, 97, 98, 99, 100, 349, 350, 351, 352, 145, 146, 147, 148, 149, 150, 151, 152, 153, 154, 155, 156, 157, 158, 159, 160, 161, 162, 163, 164, 165, 166, 167, 168, 169, 492, 493, 494, 495, 496, 497, 505, 506, 507, 508, 509, 510, 498, 499] (by decide +kernel) (by decide +kernel)
set_option maxRecDepth 20000 in
theorem gL_corner_X7_take : GoodIn wsL_corner (wsV RL 32 RX7 yX7_take wsX7_take) := goodIn_app (goodIn_of _ (by decide +kernel)) ggL_corner_X7_take
set_option maxRecDepth 20000 in
theorem ggL_corner_X7_move : GoodIn wsL_corner wsX7_move := goodIn_r _ [356, 13, 114, 17, 318, 89, 90, 31, 91, 92, 225, 209, 99, 210, 226, 212, 213, 357, 302, 303, 304, 305, 85, 86, 87, 38, 88, 124, 125, 126, 16, 127, 70, 47, 128, 129, 130, 131, 132, 102, 103, 104, 105, 106, 107, 108, 39, 109, 40, 41, 358, 359, 360, 12, 361, 32, 84, 93, 94, 95, 96, 34, 97, 98, 100, 362, 363, 364, 365, 145, 146, 147, 148, 149, 150, 151, 152, 153, 154, 155, 156, 157, 158, 159, 160, 161, 162, 163, 164, 165, 166, 167, 168, 169, 492, 493, 494, 495, 496, 497, 505, 506, 507, 508, 509, 510, 498, 499] (by decide +kernel) (by decide +kernel)
set_option maxRecDepth 20000 in
theorem gL_corner_X7_move : GoodIn wsL_corner (wsV RL 35 RX7 yX7_move wsX7_move) := goodIn_app (goodIn_of _ (by decide +kernel)) ggL_corner_X7_move
set_option maxRecDepth 20000 in
theorem ggL_corner_X7_save : GoodIn wsL_corner wsX7_save := goodIn_r _ [472, 21, 13, 114, 115, 116, 117, 20, 118, 473, 474, 475, 476, 53, 55, 123, 477, 102, 103, 31, 104, 38, 105, 106, 107, 108, 39, 92, 109, 40, 41, 492, 493, 494, 495, 496, 497, 505, 506, 507, 508, 509, 510, 500, 501] (by decide +kernel) (by decide +kernel)
set_option maxRecDepth 20000 in
theorem gL_corner_X7_save : GoodIn wsL_corner (wsV RL 72 RX7 yX7_save wsX7_save) := goodIn_app (goodIn_of _ (by decide +kernel)) ggL_corner_X7_save
theorem dL_corner_0 : decode cL_corner 0 = .ok (.new 12, 3) := by decide +kernel
theorem dL_corner_3 : decode cL_corner 3 = .ok (.dup, 1) := by decide +kernel
theorem dL_corner_4 : decode cL_corner 4 = .ok (.invokespecial 96, 3) := by decide +kernel
theorem dL_corner_7 : decode cL_corner 7 = .ok (.astore_n 0, 1) := by decide +kernel
theorem dL_corner_8 : decode cL_corner 8 = .ok (.aload_n 0, 1) := by decide +kernel
theorem dL_corner_9 : decode cL_corner 9 = .ok (.invokevirtual 97, 3) := by decide +kernel
theorem dL_corner_12 : decode cL_corner 12 = .ok (.bipush (-5), 2) := by decide +kernel
theorem dL_corner_14 : decode cL_corner 14 = .ok (.if_icmp .ne 303, 3) := by decide +kernel
theorem dL_corner_17 : decode cL_corner 17 = .ok (.aload_n 0, 1) := by decide +kernel
theorem dL_corner_18 : decode cL_corner 18 = .ok (.iconst 1, 1) := by decide +kernel
theorem dL_corner_19 : decode cL_corner 19 = .ok (.invokevirtual 75, 3) := by decide +kernel
theorem dL_corner_22 : decode cL_corner 22 = .ok (.bipush (-5), 2) := by decide +kernel
theorem dL_corner_24 : decode cL_corner 24 = .ok (.if_icmp .ne 293, 3) := by decide +kernel
theorem dL_corner_27 : decode cL_corner 27 = .ok (.aload_n 0, 1) := by decide +kernel
theorem dL_corner_28 : decode cL_corner 28 = .ok (.iconst 1, 1) := by decide +kernel
theorem dL_corner_29 : decode cL_corner 29 = .ok (.invokevirtual 11, 3) := by decide +kernel
theorem dL_corner_32 : decode cL_corner 32 = .ok (.iconst 1, 1) := by decide +kernel
theorem dL_corner_33 : decode cL_corner 33 = .ok (.if_icmp .ne 284, 3) := by decide +kernel
theorem dL_corner_36 : decode cL_corner 36 = .ok (.aload_n 0, 1) := by decide +kernel
theorem dL_corner_37 : decode cL_corner 37 = .ok (.iconst 2, 1) := by decide +kernel
theorem dL_corner_38 : decode cL_corner 38 = .ok (.invokevirtual 11, 3) := by decide +kernel
theorem dL_corner_41 : decode cL_corner 41 = .ok (.iconst 1, 1) := by decide +kernel
theorem dL_corner_42 : decode cL_corner 42 = .ok (.if_icmp .ne 275, 3) := by decide +kernel
theorem dL_corner_45 : decode cL_corner 45 = .ok (.aload_n 0, 1) := by decide +kernel
theorem dL_corner_46 : decode cL_corner 46 = .ok (.iconst 3, 1) := by decide +kernel
theorem dL_corner_47 : decode cL_corner 47 = .ok (.invokevirtual 11, 3) := by decide +kernel
theorem dL_corner_50 : decode cL_corner 50 = .ok (.ifCond .ne 267, 3) := by decide +kernel
theorem dL_corner_53 : decode cL_corner 53 = .ok (.aload_n 0, 1) := by decide +kernel
theorem dL_corner_54 : decode cL_corner 54 = .ok (.iconst 4, 1) := by decide +kernel
theorem dL_corner_55 : decode cL_corner 55 = .ok (.invokevirtual 11, 3) := by decide +kernel
