theorem dL_corner_1048 : decode cL_corner 1048 = .ok (.aload_n 0, 1) := by decide +kernel
theorem dL_corner_1049 : decode cL_corner 1049 = .ok (.invokevirtual 97, 3) := by decide +kernel
theorem dL_corner_1052 : decode cL_corner 1052 = .ok (.iconst 3, 1) := by decide +kernel
theorem dL_corner_1053 : decode cL_corner 1053 = .ok (.if_icmp .ne 81, 3) := by decide +kernel
theorem dL_corner_1056 : decode cL_corner 1056 = .ok (.aload_n 0, 1) := by decide +kernel
theorem dL_corner_1057 : decode cL_corner 1057 = .ok (.iconst 0, 1) := by decide +kernel
theorem dL_corner_1058 : decode cL_corner 1058 = .ok (.invokevirtual 11, 3) := by decide +kernel
theorem dL_corner_1061 : decode cL_corner 1061 = .ok (.iconst 4, 1) := by decide +kernel
theorem dL_corner_1062 : decode cL_corner 1062 = .ok (.if_icmp .ne 72, 3) := by decide +kernel
theorem dL_corner_1065 : decode cL_corner 1065 = .ok (.aload_n 0, 1) := by decide +kernel
theorem dL_corner_1066 : decode cL_corner 1066 = .ok (.iconst 1, 1) := by decide +kernel
theorem dL_corner_1067 : decode cL_corner 1067 = .ok (.invokevirtual 11, 3) := by decide +kernel
theorem dL_corner_1070 : decode cL_corner 1070 = .ok (.iconst 4, 1) := by decide +kernel
theorem dL_corner_1071 : decode cL_corner 1071 = .ok (.if_icmp .ne 63, 3) := by decide +kernel
theorem dL_corner_1074 : decode cL_corner 1074 = .ok (.aload_n 0, 1) := by decide +kernel
theorem dL_corner_1075 : decode cL_corner 1075 = .ok (.invokevirtual 97, 3) := by decide +kernel
theorem dL_corner_1078 : decode cL_corner 1078 = .ok (.iconst 2, 1) := by decide +kernel
theorem dL_corner_1079 : decode cL_corner 1079 = .ok (.if_icmp .ne 55, 3) := by decide +kernel
theorem dL_corner_1082 : decode cL_corner 1082 = .ok (.aload_n 0, 1) := by decide +kernel
theorem dL_corner_1083 : decode cL_corner 1083 = .ok (.iconst 1, 1) := by decide +kernel
theorem dL_corner_1084 : decode cL_corner 1084 = .ok (.invokevirtual 11, 3) := by decide +kernel
theorem dL_corner_1087 : decode cL_corner 1087 = .ok (.bipush 7, 2) := by decide +kernel
theorem dL_corner_1089 : decode cL_corner 1089 = .ok (.if_icmp .ne 45, 3) := by decide +kernel
theorem dL_corner_1092 : decode cL_corner 1092 = .ok (.aload_n 0, 1) := by decide +kernel
theorem dL_corner_1093 : decode cL_corner 1093 = .ok (.iconst 1, 1) := by decide +kernel
theorem dL_corner_1094 : decode cL_corner 1094 = .ok (.invokevirtual 72, 3) := by decide +kernel
theorem dL_corner_1097 : decode cL_corner 1097 = .ok (.iconst 4, 1) := by decide +kernel
theorem dL_corner_1098 : decode cL_corner 1098 = .ok (.if_icmp .ne 36, 3) := by decide +kernel
theorem dL_corner_1101 : decode cL_corner 1101 = .ok (.aload_n 0, 1) := by decide +kernel
theorem dL_corner_1102 : decode cL_corner 1102 = .ok (.iconst 0, 1) := by decide +kernel
theorem dL_corner_1103 : decode cL_corner 1103 = .ok (.iconst 1, 1) := by decide +kernel
theorem dL_corner_1104 : decode cL_corner 1104 = .ok (.invokevirtual 24, 3) := by decide +kernel
theorem dL_corner_1107 : decode cL_corner 1107 = .ok (.iconst 3, 1) := by decide +kernel
theorem dL_corner_1108 : decode cL_corner 1108 = .ok (.if_icmp .ne 26, 3) := by decide +kernel
theorem dL_corner_1111 : decode cL_corner 1111 = .ok (.aload_n 0, 1) := by decide +kernel
theorem dL_corner_1112 : decode cL_corner 1112 = .ok (.iconst 1, 1) := by decide +kernel
theorem dL_corner_1113 : decode cL_corner 1113 = .ok (.invokevirtual 75, 3) := by decide +kernel
theorem dL_corner_1116 : decode cL_corner 1116 = .ok (.iconst 4, 1) := by decide +kernel
theorem dL_corner_1117 : decode cL_corner 1117 = .ok (.if_icmp .ne 17, 3) := by decide +kernel
theorem dL_corner_1120 : decode cL_corner 1120 = .ok (.aload_n 0, 1) := by decide +kernel
theorem dL_corner_1121 : decode cL_corner 1121 = .ok (.bipush 7, 2) := by decide +kernel
theorem dL_corner_1123 : decode cL_corner 1123 = .ok (.invokevirtual 11, 3) := by decide +kernel
theorem dL_corner_1126 : decode cL_corner 1126 = .ok (.iconst 3, 1) := by decide +kernel
theorem dL_corner_1127 : decode cL_corner 1127 = .ok (.if_icmp .ne 7, 3) := by decide +kernel
theorem dL_corner_1130 : decode cL_corner 1130 = .ok (.iconst 1, 1) := by decide +kernel
theorem dL_corner_1131 : decode cL_corner 1131 = .ok (.goto 4, 3) := by decide +kernel
theorem dL_corner_1134 : decode cL_corner 1134 = .ok (.iconst 0, 1) := by decide +kernel
theorem dL_corner_1135 : decode cL_corner 1135 = .ok (.ireturn, 1) := by decide +kernel
set_option maxRecDepth 20000 in
theorem ggL_limits_X7_init : GoodIn wsL_limits wsX7_init := goodIn_r _ [6, 7, 8, 9, 10, 11, 12, 13, 14, 15, 16, 17, 18, 19, 20, 21, 22, 23, 24, 25, 26, 27, 28, 29, 30, 31, 32, 33, 34, 35, 36, 37, 38, 39, 40, 41, 42, 43, 44, 45, 46, 47, 48, 49, 50, 51, 52, 53, 54, 55, 56, 57, 58, 59, 60, 487, 488, 483, 484, 485, 486, 489, 490, 491, 492, 493, 494, 495, 496, 497, 498, 499, 500, 501] (by decide +kernel) (by decide +kernel)
set_option maxRecDepth 20000 in
theorem gL_limits_X7_init : GoodIn wsL_limits (wsX7_init) := ggL_limits_X7_init
set_option maxRecDepth 20000 in
theorem ggL_limits_X7_point : GoodIn wsL_limits wsX7_point := goodIn_r _ [64, 13, 65, 17, 66, 67, 68, 69, 70, 71, 72, 73, 74, 75, 31, 76, 77, 78, 79, 80, 81, 82, 83, 84, 85, 38, 86, 87, 88, 89, 90, 91, 92, 16, 93, 94, 47, 95, 96, 97, 98, 99, 100, 101, 102, 103, 104, 105, 106, 39, 107, 40, 41, 108, 109, 110, 12, 111, 32, 112, 113, 114, 115, 116, 117, 118, 119, 34, 120, 121, 122, 123, 124, 125, 126, 127, 128, 129, 130, 131, 132, 133, 134, 135, 136, 137, 138, 139, 140, 141, 142, 143, 144, 145, 146, 147, 483, 484, 485, 486, 487, 488, 496, 497, 498, 499, 500, 501, 489, 490] (by decide +kernel) (by decide +kernel)
set_option maxRecDepth 20000 in
theorem gL_limits_X7_point : GoodIn wsL_limits (wsV RL 29 RX7 yX7_point wsX7_point) := goodIn_app (goodIn_of _ (by decide +kernel)) ggL_limits_X7_point
set_option maxRecDepth 20000 in
theorem ggL_limits_X7_ifPut : GoodIn wsL_limits wsX7_ifPut := goodIn_r _ [151, 13, 65, 66, 67, 68, 69, 70, 71, 72, 73, 74, 75, 31, 76, 77, 78, 79, 80, 81, 82, 83, 84, 85, 38, 86, 87, 88, 89, 152, 153, 154, 12, 155, 116, 117, 118, 119, 34, 120, 121, 122, 156, 124, 125, 126, 127, 128, 129, 130, 131, 132, 133, 32, 134, 135, 136, 137, 138, 139, 140, 141, 142, 143, 144, 145, 146, 147, 107, 39, 157, 158, 159, 160, 161, 162, 163, 164, 483, 484, 485, 486, 487, 488, 496, 497, 498, 499, 500, 501] (by decide +kernel) (by decide +kernel)
set_option maxRecDepth 20000 in
theorem gL_limits_X7_ifPut : GoodIn wsL_limits (wsV RL 66 RX7 yX7_ifPut wsX7_ifPut) := goodIn_app (goodIn_of _ (by decide +kernel)) ggL_limits_X7_ifPut
set_option maxRecDepth 20000 in
theorem ggL_limits_X7_window : GoodIn wsL_limits wsX7_window := goodIn_r _ [168, 169, 170, 171, 13, 65, 66, 67, 68, 69, 172, 173, 174, 175, 8, 9, 176, 177, 178, 179, 180, 181, 182, 31, 183, 77, 82, 83, 84, 85, 38, 86, 87, 88, 89, 184, 185, 186, 187, 188, 189, 190, 191, 192, 193, 194, 195, 196, 197, 198, 199, 200, 201, 202, 203, 12, 204, 205, 130, 131, 132, 133, 32, 134, 135, 136, 137, 138, 139, 34, 140, 141, 142, 143, 144, 145, 146, 147, 107, 39, 206, 207, 208, 209, 210, 211, 212, 213, 214, 215, 216, 217, 218, 71, 72, 161, 162, 163, 164, 120, 121, 122, 502, 503, 504, 505, 483, 484, 485, 486, 487, 488, 496, 497, 498, 499, 500, 501] (by decide +kernel) (by decide +kernel)
set_option maxRecDepth 20000 in
theorem gL_limits_X7_window : GoodIn wsL_limits (wsV RL 59 RX7 yX7_window wsX7_window) := goodIn_app (goodIn_of _ (by decide +kernel)) ggL_limits_X7_window
set_option maxRecDepth 20000 in
theorem ggL_limits_X7_split : GoodIn wsL_limits wsX7_split := goodIn_r _ [222, 13, 65, 223, 17, 224, 225, 68, 226, 227, 141, 142, 31, 143, 144, 145, 146, 147, 107, 39, 90, 91, 92, 16, 93, 94, 47, 95, 96, 97, 98, 99, 100, 101, 102, 38, 103, 104, 105, 106, 77, 40, 41, 228, 229, 230, 231, 232, 233, 234, 235, 123, 124, 125, 12, 126, 127, 128, 129, 130, 131, 132, 133, 32, 134, 135, 136, 137, 138, 139, 34, 140, 483, 484, 485, 486, 487, 488, 496, 497, 498, 499, 500, 501, 489, 490] (by decide +kernel) (by decide +kernel)
set_option maxRecDepth 20000 in
theorem gL_limits_X7_split : GoodIn wsL_limits (wsV RL 39 RX7 yX7_split wsX7_split) := goodIn_app (goodIn_of _ (by decide +kernel)) ggL_limits_X7_split
set_option maxRecDepth 20000 in
theorem ggL_limits_X7_count : GoodIn wsL_limits wsX7_count := goodIn_r _ [239, 13, 65, 240, 223, 241, 242, 25, 243, 17, 244, 123, 124, 125, 12, 126, 127, 128, 129, 130, 131, 132, 133, 32, 134, 135, 136, 137, 138, 139, 34, 140, 141, 142, 31, 143, 144, 145, 146, 147, 107, 39, 245, 246, 247, 248, 156, 249, 250, 251, 252, 253, 254, 255, 256, 257, 258, 259, 260, 261, 262, 263, 264, 265, 266, 68, 267, 268, 269, 270, 201, 202, 271, 189, 190, 191, 192, 193, 194, 195, 196, 272, 198, 199, 273, 67, 69, 274, 71, 72, 275, 121, 122, 276, 161, 162, 163, 164, 120, 277, 483, 484, 485, 486, 487, 488, 496, 497, 498, 499, 500, 501, 493, 494, 495, 489, 490] (by decide +kernel) (by decide +kernel)
set_option maxRecDepth 20000 in
theorem gL_limits_X7_count : GoodIn wsL_limits (wsV RL 11 RX7 yX7_count wsX7_count) := goodIn_app (goodIn_of _ (by decide +kernel)) ggL_limits_X7_count
set_option maxRecDepth 20000 in
theorem ggL_limits_X7_tile : GoodIn wsL_limits wsX7_tile := goodIn_r _ [281, 13, 65, 224, 225, 68, 226, 282, 189, 190, 191, 192, 193, 194, 195, 196, 283, 198, 199, 284, 201, 202, 285, 137, 138, 12, 139, 34, 286, 287, 288, 289, 290, 291, 292, 293, 120, 121, 122, 130, 131, 132, 133, 32, 134, 135, 136, 140, 141, 142, 31, 143, 144, 145, 146, 147, 107, 39, 227, 294, 128, 129, 127, 483, 484, 485, 486, 487, 488, 496, 497, 498, 499, 500, 501] (by decide +kernel) (by decide +kernel)
set_option maxRecDepth 20000 in
theorem gL_limits_X7_tile : GoodIn wsL_limits (wsV RL 21 RX7 yX7_tile wsX7_tile) := goodIn_app (goodIn_of _ (by decide +kernel)) ggL_limits_X7_tile
set_option maxRecDepth 20000 in
theorem ggL_limits_L_refused_0 : GoodIn wsL_limits wsL_refused_r1 := goodIn_r wsL_refused_r1 [299, 300, 297, 301, 302, 236, 237, 238, 3, 239, 13, 65, 240, 223, 241, 242, 25, 243, 17, 244, 123, 124, 125, 12] (by decide +kernel) (by decide +kernel)
set_option maxRecDepth 20000 in
theorem ggL_limits_L_refused_2 : GoodIn wsL_limits wsL_refused_r2 := goodIn_r wsL_refused_r2 [126, 127, 128, 129, 130, 131, 132, 133, 32, 134, 135, 136, 137, 138, 139, 34, 140, 141, 142, 31, 143, 144, 145, 146] (by decide +kernel) (by decide +kernel)
set_option maxRecDepth 20000 in
theorem ggL_limits_L_refused_4 : GoodIn wsL_limits wsL_refused_r3 := goodIn_r wsL_refused_r3 [147, 107, 39, 245, 246, 247, 248, 156, 249, 250, 251, 252, 253, 254, 255, 256, 257, 258, 259, 260, 261, 262, 263, 264] (by decide +kernel) (by decide +kernel)
set_option maxRecDepth 20000 in
theorem ggL_limits_L_refused_6 : GoodIn wsL_limits wsL_refused_r4 := goodIn_r wsL_refused_r4 [265, 266, 68, 267, 268, 269, 270, 201, 202, 271, 189, 190, 191, 192, 193, 194, 195, 196, 272, 198, 199, 273, 67, 69] (by decide +kernel) (by decide +kernel)
set_option maxRecDepth 20000 in
theorem ggL_limits_L_refused_8 : GoodIn wsL_limits wsL_refused_r5 := goodIn_r wsL_refused_r5 [274, 71, 72, 275, 121, 122, 276, 161, 162, 163, 164, 120, 277, 303, 304, 305, 306, 307, 87, 88, 89, 77, 308, 83] (by decide +kernel) (by decide +kernel)
set_option maxRecDepth 20000 in
theorem ggL_limits_L_refused_10 : GoodIn wsL_limits wsL_refused_r6 := goodIn_r wsL_refused_r6 [84, 85, 38, 86, 282, 283, 309, 310, 311, 312, 313, 314, 315, 316, 82, 278, 279, 280, 281, 224, 225, 226, 284, 285] (by decide +kernel) (by decide +kernel)
set_option maxRecDepth 20000 in
theorem ggL_limits_L_refused_12 : GoodIn wsL_limits wsL_refused_r7 := goodIn_p wsL_refused_r7 [289, 293, 319, 326] (by rfl) (by decide +kernel)
set_option maxRecDepth 20000 in
theorem ggL_limits_L_refused_14 : GoodIn wsL_limits wsL_refused_r8 := goodIn_r wsL_refused_r8 [93, 94, 47, 95, 96, 97, 98, 99, 100, 101, 102, 103, 104, 105, 106, 40, 41, 61, 62, 63, 64, 66, 70, 73] (by decide +kernel) (by decide +kernel)
set_option maxRecDepth 20000 in
theorem ggL_limits_L_refused_16 : GoodIn wsL_limits wsL_refused_r9 := goodIn_r wsL_refused_r9 [74, 75, 76, 78, 79, 80, 81, 108, 109, 110, 111, 112, 113, 114, 115, 116, 117, 118, 119, 327, 328, 329, 330, 331] (by decide +kernel) (by decide +kernel)
set_option maxRecDepth 20000 in
theorem ggL_limits_L_refused_18 : GoodIn wsL_limits wsL_refused_r10 := goodIn_r wsL_refused_r10 [332, 333, 334, 335, 336, 337, 338, 339, 340, 341, 342, 343, 344, 345, 346, 347, 348, 349, 350, 351, 352, 219, 220, 221] (by decide +kernel) (by decide +kernel)
set_option maxRecDepth 20000 in
theorem ggL_limits_L_refused_20 : GoodIn wsL_limits wsL_refused_r11 := goodIn_r wsL_refused_r11 [222, 228, 229, 230, 231, 232, 233, 234, 235, 353, 354, 355, 356, 357, 358, 359, 24, 360, 361, 362, 363, 364, 365, 59] (by decide +kernel) (by decide +kernel)
set_option maxRecDepth 20000 in
theorem ggL_limits_L_refused_22 : GoodIn wsL_limits wsL_refused_r12 := goodIn_r wsL_refused_r12 [366, 367, 368, 369, 370, 371, 372, 373, 374, 375, 60, 376, 377, 378, 379, 380, 381, 382, 383, 384, 385, 386, 387, 388] (by decide +kernel) (by decide +kernel)
set_option maxRecDepth 20000 in
theorem ggL_limits_L_refused_24 : GoodIn wsL_limits wsL_refused_r13 := goodIn_r wsL_refused_r13 [389, 390, 391, 392, 393, 394, 395, 396, 397, 398, 399, 400, 401, 402, 403, 404, 405, 406, 407, 408, 409, 410, 411, 412] (by decide +kernel) (by decide +kernel)
set_option maxRecDepth 20000 in
theorem ggL_limits_L_refused_26 : GoodIn wsL_limits wsL_refused_r14 := goodIn_r wsL_refused_r14 [413, 414, 415, 416, 417, 418, 165, 166, 167, 168, 169, 170, 171, 172, 173, 174, 175, 8, 9, 176, 177, 178, 179, 180] (by decide +kernel) (by decide +kernel)
set_option maxRecDepth 20000 in
theorem ggL_limits_L_refused_28 : GoodIn wsL_limits wsL_refused_r15 := goodIn_r wsL_refused_r15 [181, 182, 183, 184, 185, 186, 187, 188, 197, 200, 203, 204, 205, 206, 207, 208, 209, 210, 211, 212, 213, 214, 215, 216] (by decide +kernel) (by decide +kernel)
set_option maxRecDepth 20000 in
theorem ggL_limits_L_refused_30 : GoodIn wsL_limits wsL_refused_r16 := goodIn_r wsL_refused_r16 [217, 218, 419, 420, 421, 422, 423, 424, 425, 148, 149, 150, 151, 152, 153, 154, 155, 157, 158, 159, 160, 426, 427, 428] (by decide +kernel) (by decide +kernel)
set_option maxRecDepth 20000 in
theorem ggL_limits_L_refused_32 : GoodIn wsL_limits wsL_refused_r17 := goodIn_r wsL_refused_r17 [429, 430, 431, 432, 433, 434, 435, 436, 437, 21, 438, 439, 20, 440, 441, 442, 443, 444, 53, 55, 445, 446, 447, 448] (by decide +kernel) (by decide +kernel)
set_option maxRecDepth 20000 in
theorem ggL_limits_L_refused_34 : GoodIn wsL_limits wsL_refused_r18 := goodIn_r wsL_refused_r18 [449, 450, 451, 452, 453, 454, 455, 456, 457, 458, 459, 460, 461, 462, 463, 464, 465, 466, 467, 468, 469, 470, 471, 472] (by decide +kernel) (by decide +kernel)
set_option maxRecDepth 20000 in
theorem ggL_limits_L_refused_36 : GoodIn wsL_limits wsL_refused_r19 := goodIn_r wsL_refused_r19 [473, 474, 475, 476, 477, 478, 479, 480, 481, 482] (by decide +kernel) (by decide +kernel)
set_option maxRecDepth 20000 in
theorem ggL_limits_L_refused_38 : GoodIn wsL_limits wsX70 := goodIn_r wsX70 [483, 484, 485, 486] (by decide +kernel) (by decide +kernel)
set_option maxRecDepth 20000 in
theorem ggL_limits_L_refused_40 : GoodIn wsL_limits wsX50 := goodIn_r wsX50 [487, 488] (by decide +kernel) (by decide +kernel)
set_option maxRecDepth 20000 in
theorem ggL_limits_L_refused_42 : GoodIn wsL_limits wsX30 := goodIn_r wsX30 [496, 497, 498, 499, 500, 501] (by decide +kernel) (by decide +kernel)
set_option maxRecDepth 20000 in
theorem ggL_limits_L_refused_44 : GoodIn wsL_limits wsX20 := goodIn_r wsX20 [493, 494, 495] (by decide +kernel) (by decide +kernel)
set_option maxRecDepth 20000 in
theorem ggL_limits_L_refused_46 : GoodIn wsL_limits wsX00 := goodIn_r wsX00 [489, 490] (by decide +kernel) (by decide +kernel)
set_option maxRecDepth 20000 in
theorem ggL_limits_L_refused_48 : GoodIn wsL_limits wsX60 := goodIn_r wsX60 [502, 503, 504, 505] (by decide +kernel) (by decide +kernel)
set_option maxRecDepth 20000 in
theorem ggL_limits_L_refused_50 : GoodIn wsL_limits wsX40 := goodIn_r wsX40 [491, 492] (by decide +kernel) (by decide +kernel)
theorem ggL_limits_L_refused : GoodIn wsL_limits wsL_refused := goodIn_app (b := ((wsL_refused_r1 ++ (wsL_refused_r2 ++ (wsL_refused_r3 ++ (wsL_refused_r4 ++ (wsL_refused_r5 ++ (wsL_refused_r6 ++ (wsL_refused_r7 ++ (wsL_refused_r8 ++ (wsL_refused_r9 ++ (wsL_refused_r10 ++ (wsL_refused_r11 ++ (wsL_refused_r12 ++ (wsL_refused_r13 ++ (wsL_refused_r14 ++ (wsL_refused_r15 ++ (wsL_refused_r16 ++ (wsL_refused_r17 ++ (wsL_refused_r18 ++ wsL_refused_r19)))))))))))))))))) ++ wsX70 ++ wsX50 ++ wsX30 ++ wsX20 ++ wsX00 ++ wsX60 ++ wsX40)) (good_at (w := .code yL_refused cL_refused 4 (some .boolean)) 298 rfl rfl) (goodIn_app (goodIn_app (goodIn_app (goodIn_app (goodIn_app (goodIn_app (goodIn_app (goodIn_app ggL_limits_L_refused_0 (goodIn_app ggL_limits_L_refused_2 (goodIn_app ggL_limits_L_refused_4 (goodIn_app ggL_limits_L_refused_6 (goodIn_app ggL_limits_L_refused_8 (goodIn_app ggL_limits_L_refused_10 (goodIn_app ggL_limits_L_refused_12 (goodIn_app ggL_limits_L_refused_14 (goodIn_app ggL_limits_L_refused_16 (goodIn_app ggL_limits_L_refused_18 (goodIn_app ggL_limits_L_refused_20 (goodIn_app ggL_limits_L_refused_22 (goodIn_app ggL_limits_L_refused_24 (goodIn_app ggL_limits_L_refused_26 (goodIn_app ggL_limits_L_refused_28 (goodIn_app ggL_limits_L_refused_30 (goodIn_app ggL_limits_L_refused_32 (goodIn_app ggL_limits_L_refused_34 ggL_limits_L_refused_36)))))))))))))))))) ggL_limits_L_refused_38) ggL_limits_L_refused_40) ggL_limits_L_refused_42) ggL_limits_L_refused_44) ggL_limits_L_refused_46) ggL_limits_L_refused_48) ggL_limits_L_refused_50)
set_option maxRecDepth 20000 in
theorem gL_limits_L_refused : GoodIn wsL_limits (va_wsS RL 100 yL_refused wsL_refused) := goodIn_app (goodIn_of _ (by decide +kernel)) ggL_limits_L_refused
theorem dL_limits_0 : decode cL_limits 0 = .ok (.new 12, 3) := by decide +kernel
theorem dL_limits_3 : decode cL_limits 3 = .ok (.dup, 1) := by decide +kernel
theorem dL_limits_4 : decode cL_limits 4 = .ok (.invokespecial 96, 3) := by decide +kernel
theorem dL_limits_7 : decode cL_limits 7 = .ok (.astore_n 0, 1) := by decide +kernel
theorem dL_limits_8 : decode cL_limits 8 = .ok (.iconst 0, 1) := by decide +kernel
theorem dL_limits_9 : decode cL_limits 9 = .ok (.istore_n 1, 1) := by decide +kernel
theorem dL_limits_10 : decode cL_limits 10 = .ok (.iload_n 1, 1) := by decide +kernel
theorem dL_limits_11 : decode cL_limits 11 = .ok (.bipush 50, 2) := by decide +kernel
theorem dL_limits_13 : decode cL_limits 13 = .ok (.if_icmp .ge 21, 3) := by decide +kernel
theorem dL_limits_16 : decode cL_limits 16 = .ok (.aload_n 0, 1) := by decide +kernel
theorem dL_limits_17 : decode cL_limits 17 = .ok (.iload_n 1, 1) := by decide +kernel
theorem dL_limits_18 : decode cL_limits 18 = .ok (.iconst 0, 1) := by decide +kernel
theorem dL_limits_19 : decode cL_limits 19 = .ok (.invokevirtual 29, 3) := by decide +kernel
theorem dL_limits_22 : decode cL_limits 22 = .ok (.iconst 1, 1) := by decide +kernel
theorem dL_limits_23 : decode cL_limits 23 = .ok (.if_icmp .ge 5, 3) := by decide +kernel
theorem dL_limits_26 : decode cL_limits 26 = .ok (.iconst 0, 1) := by decide +kernel
theorem dL_limits_27 : decode cL_limits 27 = .ok (.ireturn, 1) := by decide +kernel
theorem dL_limits_28 : decode cL_limits 28 = .ok (.iinc 1 1, 3) := by decide +kernel
theorem dL_limits_31 : decode cL_limits 31 = .ok (.goto (-21), 3) := by decide +kernel
theorem dL_limits_34 : decode cL_limits 34 = .ok (.aload_n 0, 1) := by decide +kernel
theorem dL_limits_35 : decode cL_limits 35 = .ok (.bipush 50, 2) := by decide +kernel
theorem dL_limits_37 : decode cL_limits 37 = .ok (.iconst 0, 1) := by decide +kernel
theorem dL_limits_38 : decode cL_limits 38 = .ok (.invokevirtual 29, 3) := by decide +kernel
theorem dL_limits_41 : decode cL_limits 41 = .ok (.bipush (-4), 2) := by decide +kernel
theorem dL_limits_43 : decode cL_limits 43 = .ok (.if_icmp .ne 82, 3) := by decide +kernel
theorem dL_limits_46 : decode cL_limits 46 = .ok (.aload_n 0, 1) := by decide +kernel
theorem dL_limits_47 : decode cL_limits 47 = .ok (.iconst 3, 1) := by decide +kernel
theorem dL_limits_48 : decode cL_limits 48 = .ok (.iconst 0, 1) := by decide +kernel
theorem dL_limits_49 : decode cL_limits 49 = .ok (.invokevirtual 29, 3) := by decide +kernel
theorem dL_limits_52 : decode cL_limits 52 = .ok (.bipush (-5), 2) := by decide +kernel
theorem dL_limits_54 : decode cL_limits 54 = .ok (.if_icmp .ne 71, 3) := by decide +kernel
theorem dL_limits_57 : decode cL_limits 57 = .ok (.aload_n 0, 1) := by decide +kernel
theorem dL_limits_58 : decode cL_limits 58 = .ok (.bipush 64, 2) := by decide +kernel
theorem dL_limits_60 : decode cL_limits 60 = .ok (.iconst 0, 1) := by decide +kernel
theorem dL_limits_61 : decode cL_limits 61 = .ok (.invokevirtual 29, 3) := by decide +kernel
theorem dL_limits_64 : decode cL_limits 64 = .ok (.iconst (-1), 1) := by decide +kernel
theorem dL_limits_65 : decode cL_limits 65 = .ok (.if_icmp .ne 60, 3) := by decide +kernel
theorem dL_limits_68 : decode cL_limits 68 = .ok (.aload_n 0, 1) := by decide +kernel
theorem dL_limits_69 : decode cL_limits 69 = .ok (.bipush 50, 2) := by decide +kernel
theorem dL_limits_71 : decode cL_limits 71 = .ok (.iconst 0, 1) := by decide +kernel
theorem dL_limits_72 : decode cL_limits 72 = .ok (.iconst 0, 1) := by decide +kernel
theorem dL_limits_73 : decode cL_limits 73 = .ok (.invokevirtual 66, 3) := by decide +kernel
theorem dL_limits_76 : decode cL_limits 76 = .ok (.bipush (-4), 2) := by decide +kernel
theorem dL_limits_78 : decode cL_limits 78 = .ok (.if_icmp .ne 47, 3) := by decide +kernel
theorem dL_limits_81 : decode cL_limits 81 = .ok (.aload_n 0, 1) := by decide +kernel
theorem dL_limits_82 : decode cL_limits 82 = .ok (.iconst 3, 1) := by decide +kernel
