theorem dL_corner_971 : decode cL_corner 971 = .ok (.if_icmp .ne 48, 3) := by decide +kernel
theorem dL_corner_974 : decode cL_corner 974 = .ok (.aload_n 0, 1) := by decide +kernel
theorem dL_corner_975 : decode cL_corner 975 = .ok (.iconst 2, 1) := by decide +kernel
theorem dL_corner_976 : decode cL_corner 976 = .ok (.bipush 63, 2) := by decide +kernel
theorem dL_corner_978 : decode cL_corner 978 = .ok (.bipush 63, 2) := by decide +kernel
theorem dL_corner_980 : decode cL_corner 980 = .ok (.invokevirtual 35, 3) := by decide +kernel
theorem dL_corner_983 : decode cL_corner 983 = .ok (.iconst 1, 1) := by decide +kernel
theorem dL_corner_984 : decode cL_corner 984 = .ok (.if_icmp .ne 35, 3) := by decide +kernel
theorem dL_corner_987 : decode cL_corner 987 = .ok (.aload_n 0, 1) := by decide +kernel
theorem dL_corner_988 : decode cL_corner 988 = .ok (.iconst 2, 1) := by decide +kernel
theorem dL_corner_989 : decode cL_corner 989 = .ok (.iconst 5, 1) := by decide +kernel
theorem dL_corner_990 : decode cL_corner 990 = .ok (.iconst 5, 1) := by decide +kernel
theorem dL_corner_991 : decode cL_corner 991 = .ok (.invokevirtual 35, 3) := by decide +kernel
theorem dL_corner_994 : decode cL_corner 994 = .ok (.iconst 1, 1) := by decide +kernel
theorem dL_corner_995 : decode cL_corner 995 = .ok (.if_icmp .ne 24, 3) := by decide +kernel
theorem dL_corner_998 : decode cL_corner 998 = .ok (.aload_n 0, 1) := by decide +kernel
theorem dL_corner_999 : decode cL_corner 999 = .ok (.iconst 2, 1) := by decide +kernel
theorem dL_corner_1000 : decode cL_corner 1000 = .ok (.iconst 0, 1) := by decide +kernel
theorem dL_corner_1001 : decode cL_corner 1001 = .ok (.invokevirtual 17, 3) := by decide +kernel
theorem dL_corner_1004 : decode cL_corner 1004 = .ok (.iconst 5, 1) := by decide +kernel
theorem dL_corner_1005 : decode cL_corner 1005 = .ok (.if_icmp .ne 14, 3) := by decide +kernel
theorem dL_corner_1008 : decode cL_corner 1008 = .ok (.aload_n 0, 1) := by decide +kernel
theorem dL_corner_1009 : decode cL_corner 1009 = .ok (.bipush 10, 2) := by decide +kernel
theorem dL_corner_1011 : decode cL_corner 1011 = .ok (.invokevirtual 11, 3) := by decide +kernel
theorem dL_corner_1014 : decode cL_corner 1014 = .ok (.bipush 6, 2) := by decide +kernel
theorem dL_corner_1016 : decode cL_corner 1016 = .ok (.if_icmp .eq 5, 3) := by decide +kernel
theorem dL_corner_1019 : decode cL_corner 1019 = .ok (.iconst 0, 1) := by decide +kernel
theorem dL_corner_1020 : decode cL_corner 1020 = .ok (.ireturn, 1) := by decide +kernel
theorem dL_corner_1021 : decode cL_corner 1021 = .ok (.aload_n 0, 1) := by decide +kernel
theorem dL_corner_1022 : decode cL_corner 1022 = .ok (.invokevirtual 97, 3) := by decide +kernel
theorem dL_corner_1025 : decode cL_corner 1025 = .ok (.iconst 5, 1) := by decide +kernel
theorem dL_corner_1026 : decode cL_corner 1026 = .ok (.if_icmp .ne 108, 3) := by decide +kernel
theorem dL_corner_1029 : decode cL_corner 1029 = .ok (.aload_n 0, 1) := by decide +kernel
theorem dL_corner_1030 : decode cL_corner 1030 = .ok (.iconst 2, 1) := by decide +kernel
theorem dL_corner_1031 : decode cL_corner 1031 = .ok (.iconst 0, 1) := by decide +kernel
theorem dL_corner_1032 : decode cL_corner 1032 = .ok (.invokevirtual 17, 3) := by decide +kernel
theorem dL_corner_1035 : decode cL_corner 1035 = .ok (.bipush 63, 2) := by decide +kernel
theorem dL_corner_1037 : decode cL_corner 1037 = .ok (.if_icmp .ne 97, 3) := by decide +kernel
theorem dL_corner_1040 : decode cL_corner 1040 = .ok (.aload_n 0, 1) := by decide +kernel
theorem dL_corner_1041 : decode cL_corner 1041 = .ok (.invokevirtual 97, 3) := by decide +kernel
theorem dL_corner_1044 : decode cL_corner 1044 = .ok (.iconst 4, 1) := by decide +kernel
theorem dL_corner_1045 : decode cL_corner 1045 = .ok (.if_icmp .ne 89, 3) := by decide +kernel
theorem dL_corner_1048 : decode cL_corner 1048 = .ok (.aload_n 0, 1) := by decide +kernel
theorem dL_corner_1049 : decode cL_corner 1049 = .ok (.invokevirtual 97, 3) := by decide +kernel
theorem dL_corner_1052 : decode cL_corner 1052 = .ok (.iconst 3, 1) := by decide +kernel
theorem dL_corner_1053 : decode cL_corner 1053 = .ok (.if_icmp .ne 81, 3) := by decide +kernel
theorem dL_corner_1056 : decode cL_corner 1056 = .ok (.aload_n 0, 1) := by decide +kernel
theorem dL_corner_1057 : decode cL_corner 1057 = .ok (.iconst 0, 1) := by decide +kernel
theorem dL_corner_1058 : decode cL_corner 1058 = .ok (.invokevirtual 11, 3) := by decide +kernel
theorem dL_corner_1061 : decode cL_corner 1061 = .ok (.iconst 4, 1) := by decide +kernel
theorem dL_corner_1062 : decode cL_corner 1062 = .ok (.if_icmp .ne 72, 3) := by decide +kernel
theorem dL_corner_1065 : decode cL_corner 1065 = .ok (.aload_n 0, 1) := by decide +kernel
theorem dL_corner_1066 : decode cL_corner 1066 = .ok (.iconst 1, 1) := by decide +kernel
theorem dL_corner_1067 : decode cL_corner 1067 = .ok (.invokevirtual 11, 3) := by decide +kernel
theorem dL_corner_1070 : decode cL_corner 1070 = .ok (.iconst 4, 1) := by decide +kernel
theorem dL_corner_1071 : decode cL_corner 1071 = .ok (.if_icmp .ne 63, 3) := by decide +kernel
theorem dL_corner_1074 : decode cL_corner 1074 = .ok (.aload_n 0, 1) := by decide +kernel
theorem dL_corner_1075 : decode cL_corner 1075 = .ok (.invokevirtual 97, 3) := by decide +kernel
theorem dL_corner_1078 : decode cL_corner 1078 = .ok (.iconst 2, 1) := by decide +kernel
theorem dL_corner_1079 : decode cL_corner 1079 = .ok (.if_icmp .ne 55, 3) := by decide +kernel
theorem dL_corner_1082 : decode cL_corner 1082 = .ok (.aload_n 0, 1) := by decide +kernel
theorem dL_corner_1083 : decode cL_corner 1083 = .ok (.iconst 1, 1) := by decide +kernel
theorem dL_corner_1084 : decode cL_corner 1084 = .ok (.invokevirtual 11, 3) := by decide +kernel
theorem dL_corner_1087 : decode cL_corner 1087 = .ok (.bipush 7, 2) := by decide +kernel
theorem dL_corner_1089 : decode cL_corner 1089 = .ok (.if_icmp .ne 45, 3) := by decide +kernel
theorem dL_corner_1092 : decode cL_corner 1092 = .ok (.aload_n 0, 1) := by decide +kernel
theorem dL_corner_1093 : decode cL_corner 1093 = .ok (.iconst 1, 1) := by decide +kernel
theorem dL_corner_1094 : decode cL_corner 1094 = .ok (.invokevirtual 72, 3) := by decide +kernel
theorem dL_corner_1097 : decode cL_corner 1097 = .ok (.iconst 4, 1) := by decide +kernel
theorem dL_corner_1098 : decode cL_corner 1098 = .ok (.if_icmp .ne 36, 3) := by decide +kernel
theorem dL_corner_1101 : decode cL_corner 1101 = .ok (.aload_n 0, 1) := by decide +kernel
theorem dL_corner_1102 : decode cL_corner 1102 = .ok (.iconst 0, 1) := by decide +kernel
theorem dL_corner_1103 : decode cL_corner 1103 = .ok (.iconst 1, 1) := by decide +kernel
theorem dL_corner_1104 : decode cL_corner 1104 = .ok (.invokevirtual 24, 3) := by decide +kernel
theorem dL_corner_1107 : decode cL_corner 1107 = .ok (.iconst 3, 1) := by decide +kernel
theorem dL_corner_1108 : decode cL_corner 1108 = .ok (.if_icmp .ne 26, 3) := by decide +kernel
theorem dL_corner_1111 : decode cL_corner 1111 = .ok (.aload_n 0, 1) := by decide +kernel
theorem dL_corner_1112 : decode cL_corner 1112 = .ok (.iconst 1, 1) := by decide +kernel
theorem dL_corner_1113 : decode cL_corner 1113 = .ok (.invokevirtual 75, 3) := by decide +kernel
theorem dL_corner_1116 : decode cL_corner 1116 = .ok (.iconst 4, 1) := by decide +kernel
theorem dL_corner_1117 : decode cL_corner 1117 = .ok (.if_icmp .ne 17, 3) := by decide +kernel
theorem dL_corner_1120 : decode cL_corner 1120 = .ok (.aload_n 0, 1) := by decide +kernel
theorem dL_corner_1121 : decode cL_corner 1121 = .ok (.bipush 7, 2) := by decide +kernel
theorem dL_corner_1123 : decode cL_corner 1123 = .ok (.invokevirtual 11, 3) := by decide +kernel
theorem dL_corner_1126 : decode cL_corner 1126 = .ok (.iconst 3, 1) := by decide +kernel
theorem dL_corner_1127 : decode cL_corner 1127 = .ok (.if_icmp .ne 7, 3) := by decide +kernel
theorem dL_corner_1130 : decode cL_corner 1130 = .ok (.iconst 1, 1) := by decide +kernel
theorem dL_corner_1131 : decode cL_corner 1131 = .ok (.goto 4, 3) := by decide +kernel
theorem dL_corner_1134 : decode cL_corner 1134 = .ok (.iconst 0, 1) := by decide +kernel
theorem dL_corner_1135 : decode cL_corner 1135 = .ok (.ireturn, 1) := by decide +kernel
set_option maxRecDepth 20000 in
theorem ggL_limits_X7_init : GoodIn wsL_limits wsX7_init := goodIn_r _ [6, 7, 8, 9, 10, 11, 12, 13, 14, 15, 16, 17, 18, 19, 20, 21, 22, 23, 24, 25, 26, 27, 28, 29, 30, 31, 32, 33, 34, 35, 36, 37, 38, 39, 40, 41, 42, 43, 44, 45, 46, 47, 48, 49, 50, 51, 52, 53, 54, 55, 56, 57, 58, 59, 60, 487, 488, 483, 484, 485, 486, 489, 490, 491, 492, 493, 494, 495, 496, 497, 498, 499, 500, 501] (by decide +kernel) (by decide +kernel)
set_option maxRecDepth 20000 in
theorem gL_limits_X7_init : GoodIn wsL_limits (wsX7_init) := ggL_limits_X7_init
set_option maxRecDepth 20000 in
theorem ggL_limits_X7_point : GoodIn wsL_limits wsX7_point := goodIn_r _ [64, 13, 65, 17, 66, 67, 68, 69, 70, 71, 72, 73, 74, 75, 31, 76, 77, 78, 79, 80, 81, 82, 83, 84, 85, 38, 86, 87, 88, 89, 90, 91, 92, 16, 93, 94, 47, 95, 96, 97, 98, 99, 100, 101, 102, 103, 104, 105, 106, 39, 107, 40, 41, 108, 109, 110, 12, 111, 32, 112, 113, 114, 115, 116, 117, 118, 119, 34, 120, 121, 122, 123, 124, 125, 126, 127, 128, 129, 130, 131, 132, 133, 134, 135, 136, 137, 138, 139, 140, 141, 142, 143, 144, 145, 146, 147, 483, 484, 485, 486, 487, 488, 496, 497, 498, 499, 500, 501, 489, 490] (by decide +kernel) (by decide +kernel)
set_option maxRecDepth 20000 in
theorem gL_limits_X7_point : GoodIn wsL_limits (wsV RL 29 RX7 yX7_point wsX7_point) := goodIn_app (goodIn_of _ (by decide +kernel)) ggL_limits_X7_point
set_option maxRecDepth 20000 in
theorem ggL_limits_X7_ifPut : GoodIn wsL_limits wsX7_ifPut := goodIn_r _ [151, 13, 65, 66, 67, 68, 69, 70, 71, 72, 73, 74, 75, 31, 76, 77, 78, 79, 80, 81, 82, 83, 84, 85, 38, 86, 87, 88, 89, 152, 153, 154, 12, 155, 116, 117, 118, 119, 34, 120, 121, 122, 156, 124, 125, 126, 127, 128, 129, 130, 131, 132, 133, 32, 134, 135, 136, 137, 138, 139, 140, 141, 142, 143, 144, 145, 146, 147, 107, 39, 157, 158, 159, 160, 161, 162, 163, 164, 483, 484, 485, 486, 487, 488, 496, 497, 498, 499, 500, 501] (by decide +kernel) (by decide +kernel)
set_option maxRecDepth 20000 in
theorem gL_limits_X7_ifPut : GoodIn wsL_limits (wsV RL 66 RX7 yX7_ifPut wsX7_ifPut) := goodIn_app (goodIn_of _ (by decide +kernel)) ggL_limits_X7_ifPut
set_option maxRecDepth 20000 in
theorem ggL_limits_X7_window : GoodIn wsL_limits wsX7_window := goodIn_r _ [168, 169, 170, 171, 13, 65, 66, 67, 68, 69, 172, 173, 174, 175, 8, 9, 176, 177, 178, 179, 180, 181, 182, 31, 183, 77, 82, 83, 84, 85, 38, 86, 87, 88, 89, 184, 185, 186, 187, 188, 189, 190, 191, 192, 193, 194, 195, 196, 197, 198, 199, 200, 201, 202, 203, 12, 204, 205, 130, 131, 132, 133, 32, 134, 135, 136, 137, 138, 139, 34, 140, 141, 142, 143, 144, 145, 146, 147, 107, 39, 206, 207, 208, 209, 210, 211, 212, 213, 214, 215, 216, 217, 218, 71, 72, 161, 162, 163, 164, 120, 121, 122, 502, 503, 504, 505, 483, 484, 485, 486, 487, 488, 496, 497, 498, 499, 500, 501] (by decide +kernel) (by decide +kernel)
set_option maxRecDepth 20000 in
theorem gL_limits_X7_window : GoodIn wsL_limits (wsV RL 59 RX7 yX7_window wsX7_window) := goodIn_app (goodIn_of _ (by decide +kernel)) ggL_limits_X7_window
set_option maxRecDepth 20000 in
theorem ggL_limits_X7_split : GoodIn wsL_limits wsX7_split := goodIn_r _ [222, 13, 65, 223, 17, 224, 225, 68, 226, 227, 141, 142, 31, 143, 144, 145, 146, 147, 107, 39, 90, 91, 92, 16, 93, 94, 47, 95, 96, 97, 98, 99, 100, 101, 102, 38, 103, 104, 105, 106, 77, 40, 41, 228, 229, 230, 231, 232, 233, 234, 235, 123, 124, 125, 12, 126, 127, 128, 129, 130, 131, 132, 133, 32, 134, 135, 136, 137, 138, 139, 34, 140, 483, 484, 485, 486, 487, 488, 496, 497, 498, 499, 500, 501, 489, 490] (by decide +kernel) (by decide +kernel)
set_option maxRecDepth 20000 in
theorem gL_limits_X7_split : GoodIn wsL_limits (wsV RL 39 RX7 yX7_split wsX7_split) := goodIn_app (goodIn_of _ (by decide +kernel)) ggL_limits_X7_split
set_option maxRecDepth 20000 in
theorem ggL_limits_X7_count : GoodIn wsL_limits wsX7_count := goodIn_r _ [239, 13, 65, 240, 223, 241, 242, 25, 243, 17, 244, 123, 124, 125, 12, 126, 127, 128, 129, 130, 131, 132, 133, 32, 134, 135, 136, 137, 138, 139, 34, 140, 141, 142, 31, 143, 144, 145, 146, 147, 107, 39, 245, 246, 247, 248, 156, 249, 250, 251, 252, 253, 254, 255, 256, 257, 258, 259, 260, 261, 262, 263, 264, 265, 266, 68, 267, 268, 269, 270, 201, 202, 271, 189, 190, 191, 192, 193, 194, 195, 196, 272, 198, 199, 273, 67, 69, 274, 71, 72, 275, 121, 122, 276, 161, 162, 163, 164, 120, 277, 483, 484, 485, 486, 487, 488, 496, 497, 498, 499, 500, 501, 493, 494, 495, 489, 490] (by decide +kernel) (by decide +kernel)
set_option maxRecDepth 20000 in
theorem gL_limits_X7_count : GoodIn wsL_limits (wsV RL 11 RX7 yX7_count wsX7_count) := goodIn_app (goodIn_of _ (by decide +kernel)) ggL_limits_X7_count
set_option maxRecDepth 20000 in
theorem ggL_limits_X7_tile : GoodIn wsL_limits wsX7_tile := goodIn_r _ [281, 13, 65, 224, 225, 68, 226, 282, 189, 190, 191, 192, 193, 194, 195, 196, 283, 198, 199, 284, 201, 202, 285, 137, 138, 12, 139, 34, 286, 287, 288, 289, 290, 291, 292, 293, 120, 121, 122, 130, 131, 132, 133, 32, 134, 135, 136, 140, 141, 142, 31, 143, 144, 145, 146, 147, 107, 39, 227, 294, 128, 129, 127, 483, 484, 485, 486, 487, 488, 496, 497, 498, 499, 500, 501] (by decide +kernel) (by decide +kernel)
set_option maxRecDepth 20000 in
theorem gL_limits_X7_tile : GoodIn wsL_limits (wsV RL 21 RX7 yX7_tile wsX7_tile) := goodIn_app (goodIn_of _ (by decide +kernel)) ggL_limits_X7_tile
set_option maxRecDepth 20000 in
theorem ggL_limits_L_refused : GoodIn wsL_limits wsL_refused := goodIn_r _ [298, 299, 300, 297, 301, 302, 236, 237, 238, 3, 239, 13, 65, 240, 223, 241, 242, 25, 243, 17, 244, 123, 124, 125, 12, 126, 127, 128, 129, 130, 131, 132, 133, 32, 134, 135, 136, 137, 138, 139, 34, 140, 141, 142, 31, 143, 144, 145, 146, 147, 107, 39, 245, 246, 247, 248, 156, 249, 250, 251, 252, 253, 254, 255, 256, 257, 258, 259, 260, 261, 262, 263, 264, 265, 266, 68, 267, 268, 269, 270, 201, 202, 271, 189, 190, 191, 192, 193, 194, 195, 196, 272, 198, 199, 273, 67, 69, 274, 71, 72, 275, 121, 122, 276, 161, 162, 163, 164, 120, 277, 303, 304, 305, 306, 307, 87, 88, 89, 77, 308, 83, 84, 85, 38, 86, 282, 283, 309, 310, 311, 312, 313, 314, 315, 316, 82, 278, 279, 280, 281, 224, 225, 226, 284, 285, 286, 287, 288, 289, 290, 291, 292, 293, 227, 294, 317, 318, 319, 320, 321, 322, 323, 324, 325, 326, 90, 91, 92, 16, 93, 94, 47, 95, 96, 97, 98, 99, 100, 101, 102, 103, 104, 105, 106, 40, 41, 61, 62, 63, 64, 66, 70, 73, 74, 75, 76, 78, 79, 80, 81, 108, 109, 110, 111, 112, 113, 114, 115, 116, 117, 118, 119, 327, 328, 329, 330, 331, 332, 333, 334, 335, 336, 337, 338, 339, 340, 341, 342, 343, 344, 345, 346, 347, 348, 349, 350, 351, 352, 219, 220, 221, 222, 228, 229, 230, 231, 232, 233, 234, 235, 353, 354, 355, 356, 357, 358, 359, 24, 360, 361, 362, 363, 364, 365, 59, 366, 367, 368, 369, 370, 371, 372, 373, 374, 375, 60, 376, 377, 378, 379, 380, 381, 382, 383, 384, 385, 386, 387, 388, 389, 390, 391, 392, 393, 394, 395, 396, 397, 398, 399, 400, 401, 402, 403, 404, 405, 406, 407, 408, 409, 410, 411, 412, 413, 414, 415, 416, 417, 418, 165, 166, 167, 168, 169, 170, 171, 172, 173, 174, 175, 8, 9, 176, 177, 178, 179, 180, 181, 182, 183, 184, 185, 186, 187, 188, 197, 200, 203, 204, 205, 206, 207, 208, 209, 210, 211, 212, 213, 214, 215, 216, 217, 218, 419, 420, 421, 422, 423, 424, 425, 148, 149, 150, 151, 152, 153, 154, 155, 157, 158, 159, 160, 426, 427, 428, 429, 430, 431, 432, 433, 434, 435, 436, 437, 21, 438, 439, 20, 440, 441, 442, 443, 444, 53, 55, 445, 446, 447, 448, 449, 450, 451, 452, 453, 454, 455, 456, 457, 458, 459, 460, 461, 462, 463, 464, 465, 466, 467, 468, 469, 470, 471, 472, 473, 474, 475, 476, 477, 478, 479, 480, 481, 482, 483, 484, 485, 486, 487, 488, 496, 497, 498, 499, 500, 501, 493, 494, 495, 489, 490, 502, 503, 504, 505, 491, 492] (by decide +kernel) (by decide +kernel)
set_option maxRecDepth 20000 in
theorem gL_limits_L_refused : GoodIn wsL_limits (va_wsS RL 100 yL_refused wsL_refused) := goodIn_app (goodIn_of _ (by decide +kernel)) ggL_limits_L_refused
theorem dL_limits_0 : decode cL_limits 0 = .ok (.new 12, 3) := by decide +kernel
theorem dL_limits_3 : decode cL_limits 3 = .ok (.dup, 1) := by decide +kernel
theorem dL_limits_4 : decode cL_limits 4 = .ok (.invokespecial 96, 3) := by decide +kernel
theorem dL_limits_7 : decode cL_limits 7 = .ok (.astore_n 0, 1) := by decide +kernel
theorem dL_limits_8 : decode cL_limits 8 = .ok (.iconst 0, 1) := by decide +kernel
theorem dL_limits_9 : decode cL_limits 9 = .ok (.istore_n 1, 1) := by decide +kernel
theorem dL_limits_10 : decode cL_limits 10 = .ok (.iload_n 1, 1) := by decide +kernel
theorem dL_limits_11 : decode cL_limits 11 = .ok (.bipush 50, 2) := by decide +kernel
theorem dL_limits_13 : decode cL_limits 13 = .ok (.if_icmp .ge 21, 3) := by decide +kernel
theorem dL_limits_16 : decode cL_limits 16 = .ok (.aload_n 0, 1) := by decide +kernel
theorem dL_limits_17 : decode cL_limits 17 = .ok (.iload_n 1, 1) := by decide +kernel
theorem dL_limits_18 : decode cL_limits 18 = .ok (.iconst 0, 1) := by decide +kernel
theorem dL_limits_19 : decode cL_limits 19 = .ok (.invokevirtual 29, 3) := by decide +kernel
theorem dL_limits_22 : decode cL_limits 22 = .ok (.iconst 1, 1) := by decide +kernel
theorem dL_limits_23 : decode cL_limits 23 = .ok (.if_icmp .ge 5, 3) := by decide +kernel
theorem dL_limits_26 : decode cL_limits 26 = .ok (.iconst 0, 1) := by decide +kernel
theorem dL_limits_27 : decode cL_limits 27 = .ok (.ireturn, 1) := by decide +kernel
theorem dL_limits_28 : decode cL_limits 28 = .ok (.iinc 1 1, 3) := by decide +kernel
theorem dL_limits_31 : decode cL_limits 31 = .ok (.goto (-21), 3) := by decide +kernel
theorem dL_limits_34 : decode cL_limits 34 = .ok (.aload_n 0, 1) := by decide +kernel
theorem dL_limits_35 : decode cL_limits 35 = .ok (.bipush 50, 2) := by decide +kernel
theorem dL_limits_37 : decode cL_limits 37 = .ok (.iconst 0, 1) := by decide +kernel
theorem dL_limits_38 : decode cL_limits 38 = .ok (.invokevirtual 29, 3) := by decide +kernel
theorem dL_limits_41 : decode cL_limits 41 = .ok (.bipush (-4), 2) := by decide +kernel
theorem dL_limits_43 : decode cL_limits 43 = .ok (.if_icmp .ne 82, 3) := by decide +kernel
theorem dL_limits_46 : decode cL_limits 46 = .ok (.aload_n 0, 1) := by decide +kernel
theorem dL_limits_47 : decode cL_limits 47 = .ok (.iconst 3, 1) := by decide +kernel
theorem dL_limits_48 : decode cL_limits 48 = .ok (.iconst 0, 1) := by decide +kernel
theorem dL_limits_49 : decode cL_limits 49 = .ok (.invokevirtual 29, 3) := by decide +kernel
theorem dL_limits_52 : decode cL_limits 52 = .ok (.bipush (-5), 2) := by decide +kernel
theorem dL_limits_54 : decode cL_limits 54 = .ok (.if_icmp .ne 71, 3) := by decide +kernel
theorem dL_limits_57 : decode cL_limits 57 = .ok (.aload_n 0, 1) := by decide +kernel
theorem dL_limits_58 : decode cL_limits 58 = .ok (.bipush 64, 2) := by decide +kernel
theorem dL_limits_60 : decode cL_limits 60 = .ok (.iconst 0, 1) := by decide +kernel
theorem dL_limits_61 : decode cL_limits 61 = .ok (.invokevirtual 29, 3) := by decide +kernel
theorem dL_limits_64 : decode cL_limits 64 = .ok (.iconst (-1), 1) := by decide +kernel
theorem dL_limits_65 : decode cL_limits 65 = .ok (.if_icmp .ne 60, 3) := by decide +kernel
theorem dL_limits_68 : decode cL_limits 68 = .ok (.aload_n 0, 1) := by decide +kernel
theorem dL_limits_69 : decode cL_limits 69 = .ok (.bipush 50, 2) := by decide +kernel
theorem dL_limits_71 : decode cL_limits 71 = .ok (.iconst 0, 1) := by decide +kernel
theorem dL_limits_72 : decode cL_limits 72 = .ok (.iconst 0, 1) := by decide +kernel
theorem dL_limits_73 : decode cL_limits 73 = .ok (.invokevirtual 66, 3) := by decide +kernel
theorem dL_limits_76 : decode cL_limits 76 = .ok (.bipush (-4), 2) := by decide +kernel
theorem dL_limits_78 : decode cL_limits 78 = .ok (.if_icmp .ne 47, 3) := by decide +kernel
theorem dL_limits_81 : decode cL_limits 81 = .ok (.aload_n 0, 1) := by decide +kernel
theorem dL_limits_82 : decode cL_limits 82 = .ok (.iconst 3, 1) := by decide +kernel
theorem dL_limits_83 : decode cL_limits 83 = .ok (.iconst 0, 1) := by decide +kernel
theorem dL_limits_84 : decode cL_limits 84 = .ok (.iconst 0, 1) := by decide +kernel
theorem dL_limits_85 : decode cL_limits 85 = .ok (.invokevirtual 66, 3) := by decide +kernel
theorem dL_limits_88 : decode cL_limits 88 = .ok (.bipush (-5), 2) := by decide +kernel
theorem dL_limits_90 : decode cL_limits 90 = .ok (.if_icmp .ne 35, 3) := by decide +kernel
theorem dL_limits_93 : decode cL_limits 93 = .ok (.aload_n 0, 1) := by decide +kernel
theorem dL_limits_94 : decode cL_limits 94 = .ok (.iconst 0, 1) := by decide +kernel
theorem dL_limits_95 : decode cL_limits 95 = .ok (.iconst 0, 1) := by decide +kernel
theorem dL_limits_96 : decode cL_limits 96 = .ok (.bipush 63, 2) := by decide +kernel
theorem dL_limits_98 : decode cL_limits 98 = .ok (.iconst 0, 1) := by decide +kernel
theorem dL_limits_99 : decode cL_limits 99 = .ok (.iconst 0, 1) := by decide +kernel
theorem dL_limits_100 : decode cL_limits 100 = .ok (.invokevirtual 59, 3) := by decide +kernel
theorem dL_limits_103 : decode cL_limits 103 = .ok (.bipush 50, 2) := by decide +kernel
theorem dL_limits_105 : decode cL_limits 105 = .ok (.if_icmp .ne 20, 3) := by decide +kernel
theorem dL_limits_108 : decode cL_limits 108 = .ok (.aload_n 0, 1) := by decide +kernel
theorem dL_limits_109 : decode cL_limits 109 = .ok (.bipush 10, 2) := by decide +kernel
theorem dL_limits_111 : decode cL_limits 111 = .ok (.iconst 0, 1) := by decide +kernel
theorem dL_limits_112 : decode cL_limits 112 = .ok (.bipush 19, 2) := by decide +kernel
theorem dL_limits_114 : decode cL_limits 114 = .ok (.bipush 9, 2) := by decide +kernel
theorem dL_limits_116 : decode cL_limits 116 = .ok (.iconst 0, 1) := by decide +kernel
theorem dL_limits_117 : decode cL_limits 117 = .ok (.invokevirtual 59, 3) := by decide +kernel
theorem dL_limits_120 : decode cL_limits 120 = .ok (.bipush 10, 2) := by decide +kernel
theorem dL_limits_122 : decode cL_limits 122 = .ok (.if_icmp .eq 5, 3) := by decide +kernel
theorem dL_limits_125 : decode cL_limits 125 = .ok (.iconst 0, 1) := by decide +kernel
theorem dL_limits_126 : decode cL_limits 126 = .ok (.ireturn, 1) := by decide +kernel
theorem dL_limits_127 : decode cL_limits 127 = .ok (.iconst 0, 1) := by decide +kernel
theorem dL_limits_128 : decode cL_limits 128 = .ok (.istore_n 1, 1) := by decide +kernel
theorem dL_limits_129 : decode cL_limits 129 = .ok (.iload_n 1, 1) := by decide +kernel
theorem dL_limits_130 : decode cL_limits 130 = .ok (.bipush 12, 2) := by decide +kernel
theorem dL_limits_132 : decode cL_limits 132 = .ok (.if_icmp .ge 35, 3) := by decide +kernel
theorem dL_limits_135 : decode cL_limits 135 = .ok (.aload_n 0, 1) := by decide +kernel
theorem dL_limits_136 : decode cL_limits 136 = .ok (.bipush 16, 2) := by decide +kernel
theorem dL_limits_138 : decode cL_limits 138 = .ok (.iload_n 1, 1) := by decide +kernel
theorem dL_limits_139 : decode cL_limits 139 = .ok (.iadd, 1) := by decide +kernel
theorem dL_limits_140 : decode cL_limits 140 = .ok (.iconst 1, 1) := by decide +kernel
theorem dL_limits_141 : decode cL_limits 141 = .ok (.invokevirtual 39, 3) := by decide +kernel
theorem dL_limits_144 : decode cL_limits 144 = .ok (.iconst 1, 1) := by decide +kernel
theorem dL_limits_145 : decode cL_limits 145 = .ok (.if_icmp .lt 14, 3) := by decide +kernel
theorem dL_limits_148 : decode cL_limits 148 = .ok (.aload_n 0, 1) := by decide +kernel
theorem dL_limits_149 : decode cL_limits 149 = .ok (.iconst 5, 1) := by decide +kernel
theorem dL_limits_150 : decode cL_limits 150 = .ok (.invokevirtual 11, 3) := by decide +kernel
theorem dL_limits_153 : decode cL_limits 153 = .ok (.iload_n 1, 1) := by decide +kernel
theorem dL_limits_154 : decode cL_limits 154 = .ok (.iconst 1, 1) := by decide +kernel
theorem dL_limits_155 : decode cL_limits 155 = .ok (.iadd, 1) := by decide +kernel
theorem dL_limits_156 : decode cL_limits 156 = .ok (.if_icmp .eq 5, 3) := by decide +kernel
theorem dL_limits_159 : decode cL_limits 159 = .ok (.iconst 0, 1) := by decide +kernel
theorem dL_limits_160 : decode cL_limits 160 = .ok (.ireturn, 1) := by decide +kernel
theorem dL_limits_161 : decode cL_limits 161 = .ok (.iinc 1 1, 3) := by decide +kernel
theorem dL_limits_164 : decode cL_limits 164 = .ok (.goto (-35), 3) := by decide +kernel
theorem dL_limits_167 : decode cL_limits 167 = .ok (.aload_n 0, 1) := by decide +kernel
theorem dL_limits_168 : decode cL_limits 168 = .ok (.bipush 28, 2) := by decide +kernel
theorem dL_limits_170 : decode cL_limits 170 = .ok (.iconst 1, 1) := by decide +kernel
theorem dL_limits_171 : decode cL_limits 171 = .ok (.invokevirtual 39, 3) := by decide +kernel
theorem dL_limits_174 : decode cL_limits 174 = .ok (.bipush (-4), 2) := by decide +kernel
theorem dL_limits_176 : decode cL_limits 176 = .ok (.if_icmp .ne 79, 3) := by decide +kernel
theorem dL_limits_179 : decode cL_limits 179 = .ok (.aload_n 0, 1) := by decide +kernel
theorem dL_limits_180 : decode cL_limits 180 = .ok (.bipush 16, 2) := by decide +kernel
theorem dL_limits_182 : decode cL_limits 182 = .ok (.iconst 1, 1) := by decide +kernel
theorem dL_limits_183 : decode cL_limits 183 = .ok (.invokevirtual 39, 3) := by decide +kernel
theorem dL_limits_186 : decode cL_limits 186 = .ok (.bipush (-5), 2) := by decide +kernel
theorem dL_limits_188 : decode cL_limits 188 = .ok (.if_icmp .ne 67, 3) := by decide +kernel
theorem dL_limits_191 : decode cL_limits 191 = .ok (.aload_n 0, 1) := by decide +kernel
theorem dL_limits_192 : decode cL_limits 192 = .ok (.bipush 16, 2) := by decide +kernel
theorem dL_limits_194 : decode cL_limits 194 = .ok (.iconst 0, 1) := by decide +kernel
theorem dL_limits_195 : decode cL_limits 195 = .ok (.invokevirtual 39, 3) := by decide +kernel
theorem dL_limits_198 : decode cL_limits 198 = .ok (.ifCond .le 57, 3) := by decide +kernel
theorem dL_limits_201 : decode cL_limits 201 = .ok (.aload_n 0, 1) := by decide +kernel
theorem dL_limits_202 : decode cL_limits 202 = .ok (.bipush 28, 2) := by decide +kernel
theorem dL_limits_204 : decode cL_limits 204 = .ok (.iconst 1, 1) := by decide +kernel
theorem dL_limits_205 : decode cL_limits 205 = .ok (.invokevirtual 39, 3) := by decide +kernel
theorem dL_limits_208 : decode cL_limits 208 = .ok (.ifCond .le 47, 3) := by decide +kernel
theorem dL_limits_211 : decode cL_limits 211 = .ok (.aload_n 0, 1) := by decide +kernel
theorem dL_limits_212 : decode cL_limits 212 = .ok (.iconst 5, 1) := by decide +kernel
theorem dL_limits_213 : decode cL_limits 213 = .ok (.invokevirtual 11, 3) := by decide +kernel
theorem dL_limits_216 : decode cL_limits 216 = .ok (.bipush 12, 2) := by decide +kernel
theorem dL_limits_218 : decode cL_limits 218 = .ok (.if_icmp .ne 37, 3) := by decide +kernel
theorem dL_limits_221 : decode cL_limits 221 = .ok (.aload_n 0, 1) := by decide +kernel
theorem dL_limits_222 : decode cL_limits 222 = .ok (.bipush 16, 2) := by decide +kernel
theorem dL_limits_224 : decode cL_limits 224 = .ok (.bipush 6, 2) := by decide +kernel
theorem dL_limits_226 : decode cL_limits 226 = .ok (.invokevirtual 21, 3) := by decide +kernel
theorem dL_limits_229 : decode cL_limits 229 = .ok (.ifCond .ne 26, 3) := by decide +kernel
theorem dL_limits_232 : decode cL_limits 232 = .ok (.aload_n 0, 1) := by decide +kernel
theorem dL_limits_233 : decode cL_limits 233 = .ok (.bipush 28, 2) := by decide +kernel
theorem dL_limits_235 : decode cL_limits 235 = .ok (.bipush 6, 2) := by decide +kernel
theorem dL_limits_237 : decode cL_limits 237 = .ok (.invokevirtual 21, 3) := by decide +kernel
theorem dL_limits_240 : decode cL_limits 240 = .ok (.iconst 1, 1) := by decide +kernel
theorem dL_limits_241 : decode cL_limits 241 = .ok (.if_icmp .ne 14, 3) := by decide +kernel
theorem dL_limits_244 : decode cL_limits 244 = .ok (.aload_n 0, 1) := by decide +kernel
theorem dL_limits_245 : decode cL_limits 245 = .ok (.invokestatic 100, 3) := by decide +kernel
theorem dL_limits_248 : decode cL_limits 248 = .ok (.ifCond .eq 7, 3) := by decide +kernel
theorem dL_limits_251 : decode cL_limits 251 = .ok (.iconst 1, 1) := by decide +kernel
theorem dL_limits_252 : decode cL_limits 252 = .ok (.goto 4, 3) := by decide +kernel
theorem dL_limits_255 : decode cL_limits 255 = .ok (.iconst 0, 1) := by decide +kernel
theorem dL_limits_256 : decode cL_limits 256 = .ok (.ireturn, 1) := by decide +kernel
set_option maxRecDepth 20000 in
theorem ggL_texts_X7_init : GoodIn wsL_texts wsX7_init := goodIn_r _ [23, 24, 25, 26, 27, 28, 29, 30, 31, 32, 33, 34, 35, 36, 37, 38, 39, 40, 41, 42, 43, 44, 45, 46, 47, 48, 49, 50, 51, 52, 53, 54, 55, 56, 57, 58, 59, 60, 61, 62, 63, 64, 65, 66, 67, 68, 69, 70, 71, 72, 73, 74, 75, 76, 77, 313, 314, 309, 310, 311, 312, 315, 316, 317, 318, 319, 320, 321, 322, 323, 324, 325, 326, 327] (by decide +kernel) (by decide +kernel)
set_option maxRecDepth 20000 in
theorem gL_texts_X7_init : GoodIn wsL_texts (wsX7_init) := ggL_texts_X7_init
set_option maxRecDepth 20000 in
theorem ggL_texts_X7_fault : GoodIn wsL_texts wsX7_fault := goodIn_r _ [81, 42, 82, 83, 84, 41, 85, 86, 87, 88, 89, 90, 76, 91, 92, 93, 94, 95, 96, 309, 310, 311, 312, 319, 320, 321] (by decide +kernel) (by decide +kernel)
set_option maxRecDepth 20000 in
theorem gL_texts_X7_fault : GoodIn wsL_texts (wsV RL 104 RX7 yX7_fault wsX7_fault) := goodIn_app (goodIn_of _ (by decide +kernel)) ggL_texts_X7_fault
set_option maxRecDepth 20000 in
theorem ggL_texts_X7_putAll : GoodIn wsL_texts wsX7_putAll := goodIn_r _ [100, 42, 34, 30, 101, 82, 83, 84, 41, 85, 86, 87, 88, 89, 90, 76, 91, 92, 93, 94, 95, 96, 102, 103, 104, 33, 105, 106, 64, 107, 108, 109, 110, 111, 112, 113, 48, 114, 55, 115, 116, 117, 118, 56, 119, 120, 57, 58, 121, 122, 123, 124, 77, 125, 126, 127, 128, 129, 130, 131, 132, 133, 134, 135, 136, 137, 138, 139, 140, 141, 142, 143, 144, 145, 146, 147, 148, 149, 150, 151, 29, 152, 49, 153, 154, 155, 156, 157, 158, 159, 160, 51, 161, 162, 163, 164, 165, 166, 167, 309, 310, 311, 312, 313, 314, 319, 320, 321, 315, 316, 322, 323, 324, 325, 326, 327] (by decide +kernel) (by decide +kernel)
set_option maxRecDepth 20000 in
theorem gL_texts_X7_putAll : GoodIn wsL_texts (wsV RL 43 RX7 yX7_putAll wsX7_putAll) := goodIn_app (goodIn_of _ (by decide +kernel)) ggL_texts_X7_putAll
set_option maxRecDepth 20000 in
theorem ggL_texts_X7_put : GoodIn wsL_texts wsX7_put := goodIn_r _ [171, 42, 172, 173, 174, 41, 175, 176, 177, 178, 179, 180, 181, 182, 86, 76, 309, 310, 311, 312, 319, 320, 321] (by decide +kernel) (by decide +kernel)
set_option maxRecDepth 20000 in
theorem gL_texts_X7_put : GoodIn wsL_texts (wsV RL 80 RX7 yX7_put wsX7_put) := goodIn_app (goodIn_of _ (by decide +kernel)) ggL_texts_X7_put
set_option maxRecDepth 20000 in
theorem ggL_texts_X7_wipe : GoodIn wsL_texts wsX7_wipe := goodIn_r _ [186, 42, 172, 164, 165, 166, 41, 167, 86, 309, 310, 311, 312, 319, 320, 321] (by decide +kernel) (by decide +kernel)
set_option maxRecDepth 20000 in
theorem gL_texts_X7_wipe : GoodIn wsL_texts (wsV RL 109 RX7 yX7_wipe wsX7_wipe) := goodIn_app (goodIn_of _ (by decide +kernel)) ggL_texts_X7_wipe
set_option maxRecDepth 20000 in
theorem ggL_texts_X7_count : GoodIn wsL_texts wsX7_count := goodIn_r _ [190, 30, 101, 191, 192, 193, 194, 42, 172, 34, 195, 196, 197, 198, 29, 199, 200, 201, 202, 203, 204, 205, 206, 49, 207, 208, 209, 210, 211, 212, 51, 213, 214, 215, 48, 216, 217, 218, 219, 220, 120, 56, 221, 222, 223, 224, 225, 226, 227, 228, 229, 230, 231, 232, 233, 234, 235, 236, 237, 238, 239, 240, 241, 242, 243, 127, 244, 245, 246, 247, 248, 249, 250, 251, 252, 253, 254, 255, 256, 257, 258, 259, 260, 261, 262, 263, 264, 265, 126, 128, 266, 162, 163, 267, 268, 269, 270, 271, 161, 272, 309, 310, 311, 312, 313, 314, 322, 323, 324, 325, 326, 327, 319, 320, 321, 315, 316] (by decide +kernel) (by decide +kernel)
set_option maxRecDepth 20000 in
theorem gL_texts_X7_count : GoodIn wsL_texts (wsV RL 11 RX7 yX7_count wsX7_count) := goodIn_app (goodIn_of _ (by decide +kernel)) ggL_texts_X7_count
set_option maxRecDepth 20000 in
theorem ggL_texts_X7_of : GoodIn wsL_texts wsX7_of := goodIn_r _ [276, 30, 101, 277, 146, 147, 48, 148, 119, 278, 142, 143, 144, 55, 145, 279, 251, 127, 252, 253, 254, 255, 256, 257, 258, 280, 260, 261, 281, 282, 283, 29, 284, 268, 269, 270, 271, 161, 162, 163, 203, 204, 205, 206, 49, 207, 208, 209, 210, 211, 212, 51, 213, 214, 215, 216, 217, 218, 219, 220, 120, 56, 285, 286, 287, 288, 141, 309, 310, 311, 312, 313, 314, 322, 323, 324, 325, 326, 327] (by decide +kernel) (by decide +kernel)
set_option maxRecDepth 20000 in
theorem gL_texts_X7_of : GoodIn wsL_texts (wsV RL 17 RX7 yX7_of wsX7_of) := goodIn_app (goodIn_of _ (by decide +kernel)) ggL_texts_X7_of
set_option maxRecDepth 20000 in
theorem ggL_texts_X7_undo : GoodIn wsL_texts wsX7_undo := goodIn_r _ [292, 34, 195, 30, 293, 294, 295, 33, 296, 106, 297, 229, 230, 231, 64, 298, 299, 300, 29, 301, 49, 302, 303, 304, 305, 306, 307, 142, 143, 48, 144, 55, 145, 146, 147, 148, 119, 157, 158, 159, 160, 51, 161, 162, 127, 163, 308, 112, 113, 114, 115, 116, 117, 118, 56, 120, 57, 58, 309, 310, 311, 312, 315, 316, 313, 314, 322, 323, 324, 325, 326, 327] (by decide +kernel) (by decide +kernel)
set_option maxRecDepth 20000 in
theorem gL_texts_X7_undo : GoodIn wsL_texts (wsV RL 97 RX7 yX7_undo wsX7_undo) := goodIn_app (goodIn_of _ (by decide +kernel)) ggL_texts_X7_undo
theorem dL_texts_0 : decode cL_texts 0 = .ok (.new 12, 3) := by decide +kernel
theorem dL_texts_3 : decode cL_texts 3 = .ok (.dup, 1) := by decide +kernel
theorem dL_texts_4 : decode cL_texts 4 = .ok (.invokespecial 96, 3) := by decide +kernel
theorem dL_texts_7 : decode cL_texts 7 = .ok (.astore_n 0, 1) := by decide +kernel
theorem dL_texts_8 : decode cL_texts 8 = .ok (.aload_n 0, 1) := by decide +kernel
theorem dL_texts_9 : decode cL_texts 9 = .ok (.invokevirtual 104, 3) := by decide +kernel
theorem dL_texts_12 : decode cL_texts 12 = .ok (.ifCond .ne 301, 3) := by decide +kernel
theorem dL_texts_15 : decode cL_texts 15 = .ok (.aload_n 0, 1) := by decide +kernel
theorem dL_texts_16 : decode cL_texts 16 = .ok (.invokevirtual 43, 3) := by decide +kernel
theorem dL_texts_19 : decode cL_texts 19 = .ok (.bipush (-3), 2) := by decide +kernel
theorem dL_texts_21 : decode cL_texts 21 = .ok (.if_icmp .ne 292, 3) := by decide +kernel
theorem dL_texts_24 : decode cL_texts 24 = .ok (.aload_n 0, 1) := by decide +kernel
theorem dL_texts_25 : decode cL_texts 25 = .ok (.ldc2_w 107, 3) := by decide +kernel
theorem dL_texts_28 : decode cL_texts 28 = .ok (.invokevirtual 80, 3) := by decide +kernel
theorem dL_texts_31 : decode cL_texts 31 = .ok (.ifCond .lt 282, 3) := by decide +kernel
theorem dL_texts_34 : decode cL_texts 34 = .ok (.aload_n 0, 1) := by decide +kernel
theorem dL_texts_35 : decode cL_texts 35 = .ok (.invokevirtual 104, 3) := by decide +kernel
theorem dL_texts_38 : decode cL_texts 38 = .ok (.iconst 1, 1) := by decide +kernel
theorem dL_texts_39 : decode cL_texts 39 = .ok (.if_icmp .ne 274, 3) := by decide +kernel
theorem dL_texts_42 : decode cL_texts 42 = .ok (.aload_n 0, 1) := by decide +kernel
theorem dL_texts_43 : decode cL_texts 43 = .ok (.invokevirtual 109, 3) := by decide +kernel
theorem dL_texts_46 : decode cL_texts 46 = .ok (.iconst 4, 1) := by decide +kernel
theorem dL_texts_47 : decode cL_texts 47 = .ok (.if_icmp .ne 266, 3) := by decide +kernel
theorem dL_texts_50 : decode cL_texts 50 = .ok (.aload_n 0, 1) := by decide +kernel
theorem dL_texts_51 : decode cL_texts 51 = .ok (.ldc2_w 112, 3) := by decide +kernel
theorem dL_texts_54 : decode cL_texts 54 = .ok (.invokevirtual 80, 3) := by decide +kernel
theorem dL_texts_57 : decode cL_texts 57 = .ok (.ifCond .lt 256, 3) := by decide +kernel
theorem dL_texts_60 : decode cL_texts 60 = .ok (.aload_n 0, 1) := by decide +kernel
theorem dL_texts_61 : decode cL_texts 61 = .ok (.invokevirtual 104, 3) := by decide +kernel
theorem dL_texts_64 : decode cL_texts 64 = .ok (.iconst 1, 1) := by decide +kernel
theorem dL_texts_65 : decode cL_texts 65 = .ok (.if_icmp .ne 248, 3) := by decide +kernel
theorem dL_texts_68 : decode cL_texts 68 = .ok (.aload_n 0, 1) := by decide +kernel
theorem dL_texts_69 : decode cL_texts 69 = .ok (.invokevirtual 109, 3) := by decide +kernel
theorem dL_texts_72 : decode cL_texts 72 = .ok (.iconst 4, 1) := by decide +kernel
theorem dL_texts_73 : decode cL_texts 73 = .ok (.if_icmp .ne 240, 3) := by decide +kernel
theorem dL_texts_76 : decode cL_texts 76 = .ok (.aload_n 0, 1) := by decide +kernel
theorem dL_texts_77 : decode cL_texts 77 = .ok (.ldc2_w 114, 3) := by decide +kernel
theorem dL_texts_80 : decode cL_texts 80 = .ok (.invokevirtual 80, 3) := by decide +kernel
theorem dL_texts_83 : decode cL_texts 83 = .ok (.ifCond .lt 230, 3) := by decide +kernel
theorem dL_texts_86 : decode cL_texts 86 = .ok (.aload_n 0, 1) := by decide +kernel
theorem dL_texts_87 : decode cL_texts 87 = .ok (.invokevirtual 104, 3) := by decide +kernel
theorem dL_texts_90 : decode cL_texts 90 = .ok (.iconst 4, 1) := by decide +kernel
theorem dL_texts_91 : decode cL_texts 91 = .ok (.if_icmp .ne 222, 3) := by decide +kernel
theorem dL_texts_94 : decode cL_texts 94 = .ok (.aload_n 0, 1) := by decide +kernel
theorem dL_texts_95 : decode cL_texts 95 = .ok (.invokevirtual 109, 3) := by decide +kernel
theorem dL_texts_98 : decode cL_texts 98 = .ok (.iconst 4, 1) := by decide +kernel
theorem dL_texts_99 : decode cL_texts 99 = .ok (.if_icmp .ne 214, 3) := by decide +kernel
theorem dL_texts_102 : decode cL_texts 102 = .ok (.aload_n 0, 1) := by decide +kernel
theorem dL_texts_103 : decode cL_texts 103 = .ok (.ldc2_w 116, 3) := by decide +kernel
theorem dL_texts_106 : decode cL_texts 106 = .ok (.invokevirtual 80, 3) := by decide +kernel
theorem dL_texts_109 : decode cL_texts 109 = .ok (.ifCond .lt 204, 3) := by decide +kernel
theorem dL_texts_112 : decode cL_texts 112 = .ok (.aload_n 0, 1) := by decide +kernel
theorem dL_texts_113 : decode cL_texts 113 = .ok (.invokevirtual 104, 3) := by decide +kernel
theorem dL_texts_116 : decode cL_texts 116 = .ok (.ifCond .ne 197, 3) := by decide +kernel
theorem dL_texts_119 : decode cL_texts 119 = .ok (.aload_n 0, 1) := by decide +kernel
theorem dL_texts_120 : decode cL_texts 120 = .ok (.invokevirtual 109, 3) := by decide +kernel
theorem dL_texts_123 : decode cL_texts 123 = .ok (.iconst 1, 1) := by decide +kernel
theorem dL_texts_124 : decode cL_texts 124 = .ok (.if_icmp .ne 189, 3) := by decide +kernel
theorem dL_texts_127 : decode cL_texts 127 = .ok (.aload_n 0, 1) := by decide +kernel
theorem dL_texts_128 : decode cL_texts 128 = .ok (.ldc2_w 118, 3) := by decide +kernel
theorem dL_texts_131 : decode cL_texts 131 = .ok (.invokevirtual 80, 3) := by decide +kernel
theorem dL_texts_134 : decode cL_texts 134 = .ok (.ifCond .lt 179, 3) := by decide +kernel
theorem dL_texts_137 : decode cL_texts 137 = .ok (.aload_n 0, 1) := by decide +kernel
theorem dL_texts_138 : decode cL_texts 138 = .ok (.invokevirtual 104, 3) := by decide +kernel
theorem dL_texts_141 : decode cL_texts 141 = .ok (.iconst 1, 1) := by decide +kernel
theorem dL_texts_142 : decode cL_texts 142 = .ok (.if_icmp .ne 171, 3) := by decide +kernel
theorem dL_texts_145 : decode cL_texts 145 = .ok (.aload_n 0, 1) := by decide +kernel
theorem dL_texts_146 : decode cL_texts 146 = .ok (.invokevirtual 109, 3) := by decide +kernel
theorem dL_texts_149 : decode cL_texts 149 = .ok (.iconst 1, 1) := by decide +kernel
theorem dL_texts_150 : decode cL_texts 150 = .ok (.if_icmp .ne 163, 3) := by decide +kernel
theorem dL_texts_153 : decode cL_texts 153 = .ok (.aload_n 0, 1) := by decide +kernel
theorem dL_texts_154 : decode cL_texts 154 = .ok (.ldc2_w 120, 3) := by decide +kernel
theorem dL_texts_157 : decode cL_texts 157 = .ok (.invokevirtual 80, 3) := by decide +kernel
theorem dL_texts_160 : decode cL_texts 160 = .ok (.ifCond .lt 153, 3) := by decide +kernel
theorem dL_texts_163 : decode cL_texts 163 = .ok (.aload_n 0, 1) := by decide +kernel
theorem dL_texts_164 : decode cL_texts 164 = .ok (.invokevirtual 104, 3) := by decide +kernel
theorem dL_texts_167 : decode cL_texts 167 = .ok (.bipush (-6), 2) := by decide +kernel
theorem dL_texts_169 : decode cL_texts 169 = .ok (.if_icmp .ne 144, 3) := by decide +kernel
theorem dL_texts_172 : decode cL_texts 172 = .ok (.aload_n 0, 1) := by decide +kernel
theorem dL_texts_173 : decode cL_texts 173 = .ok (.invokevirtual 109, 3) := by decide +kernel
theorem dL_texts_176 : decode cL_texts 176 = .ok (.iconst 5, 1) := by decide +kernel
theorem dL_texts_177 : decode cL_texts 177 = .ok (.if_icmp .ne 136, 3) := by decide +kernel
theorem dL_texts_180 : decode cL_texts 180 = .ok (.aload_n 0, 1) := by decide +kernel
theorem dL_texts_181 : decode cL_texts 181 = .ok (.ldc2_w 122, 3) := by decide +kernel
theorem dL_texts_184 : decode cL_texts 184 = .ok (.invokevirtual 80, 3) := by decide +kernel
theorem dL_texts_187 : decode cL_texts 187 = .ok (.ifCond .lt 126, 3) := by decide +kernel
theorem dL_texts_190 : decode cL_texts 190 = .ok (.aload_n 0, 1) := by decide +kernel
theorem dL_texts_191 : decode cL_texts 191 = .ok (.invokevirtual 104, 3) := by decide +kernel
theorem dL_texts_194 : decode cL_texts 194 = .ok (.bipush (-6), 2) := by decide +kernel
theorem dL_texts_196 : decode cL_texts 196 = .ok (.if_icmp .ne 117, 3) := by decide +kernel
theorem dL_texts_199 : decode cL_texts 199 = .ok (.aload_n 0, 1) := by decide +kernel
theorem dL_texts_200 : decode cL_texts 200 = .ok (.invokevirtual 109, 3) := by decide +kernel
theorem dL_texts_203 : decode cL_texts 203 = .ok (.bipush 7, 2) := by decide +kernel
theorem dL_texts_205 : decode cL_texts 205 = .ok (.if_icmp .ne 108, 3) := by decide +kernel
theorem dL_texts_208 : decode cL_texts 208 = .ok (.aload_n 0, 1) := by decide +kernel
theorem dL_texts_209 : decode cL_texts 209 = .ok (.ldc2_w 124, 3) := by decide +kernel
theorem dL_texts_212 : decode cL_texts 212 = .ok (.invokevirtual 80, 3) := by decide +kernel
theorem dL_texts_215 : decode cL_texts 215 = .ok (.ifCond .lt 98, 3) := by decide +kernel
theorem dL_texts_218 : decode cL_texts 218 = .ok (.aload_n 0, 1) := by decide +kernel
theorem dL_texts_219 : decode cL_texts 219 = .ok (.invokevirtual 104, 3) := by decide +kernel
theorem dL_texts_222 : decode cL_texts 222 = .ok (.iconst 3, 1) := by decide +kernel
theorem dL_texts_223 : decode cL_texts 223 = .ok (.if_icmp .ne 90, 3) := by decide +kernel
theorem dL_texts_226 : decode cL_texts 226 = .ok (.aload_n 0, 1) := by decide +kernel
theorem dL_texts_227 : decode cL_texts 227 = .ok (.invokevirtual 109, 3) := by decide +kernel
theorem dL_texts_230 : decode cL_texts 230 = .ok (.iconst 5, 1) := by decide +kernel
theorem dL_texts_231 : decode cL_texts 231 = .ok (.if_icmp .ne 82, 3) := by decide +kernel
theorem dL_texts_234 : decode cL_texts 234 = .ok (.aload_n 0, 1) := by decide +kernel
theorem dL_texts_235 : decode cL_texts 235 = .ok (.ldc2_w 126, 3) := by decide +kernel
theorem dL_texts_238 : decode cL_texts 238 = .ok (.invokevirtual 80, 3) := by decide +kernel
theorem dL_texts_241 : decode cL_texts 241 = .ok (.ifCond .lt 72, 3) := by decide +kernel
theorem dL_texts_244 : decode cL_texts 244 = .ok (.aload_n 0, 1) := by decide +kernel
theorem dL_texts_245 : decode cL_texts 245 = .ok (.invokevirtual 104, 3) := by decide +kernel
theorem dL_texts_248 : decode cL_texts 248 = .ok (.iconst 3, 1) := by decide +kernel
theorem dL_texts_249 : decode cL_texts 249 = .ok (.if_icmp .ne 64, 3) := by decide +kernel
theorem dL_texts_252 : decode cL_texts 252 = .ok (.aload_n 0, 1) := by decide +kernel
theorem dL_texts_253 : decode cL_texts 253 = .ok (.invokevirtual 109, 3) := by decide +kernel
theorem dL_texts_256 : decode cL_texts 256 = .ok (.iconst 4, 1) := by decide +kernel
theorem dL_texts_257 : decode cL_texts 257 = .ok (.if_icmp .ne 56, 3) := by decide +kernel
theorem dL_texts_260 : decode cL_texts 260 = .ok (.aload_n 0, 1) := by decide +kernel
theorem dL_texts_261 : decode cL_texts 261 = .ok (.ldc2_w 128, 3) := by decide +kernel
theorem dL_texts_264 : decode cL_texts 264 = .ok (.invokevirtual 80, 3) := by decide +kernel
theorem dL_texts_267 : decode cL_texts 267 = .ok (.ifCond .lt 46, 3) := by decide +kernel
theorem dL_texts_270 : decode cL_texts 270 = .ok (.aload_n 0, 1) := by decide +kernel
theorem dL_texts_271 : decode cL_texts 271 = .ok (.invokevirtual 104, 3) := by decide +kernel
theorem dL_texts_274 : decode cL_texts 274 = .ok (.iconst 5, 1) := by decide +kernel
theorem dL_texts_275 : decode cL_texts 275 = .ok (.if_icmp .ne 38, 3) := by decide +kernel
