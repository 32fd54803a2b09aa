theorem dL_seen_107 : decode cL_seen 107 = .ok (.goto (-37), 3) := by decide +kernel
theorem dL_seen_110 : decode cL_seen 110 = .ok (.lload_n 1, 1) := by decide +kernel
theorem dL_seen_111 : decode cL_seen 111 = .ok (.lreturn, 1) := by decide +kernel
set_option maxRecDepth 20000 in
theorem ggL_refusesAny_X7_count : GoodIn wsL_refusesAny wsX7_count := goodIn_r _ [8, 9, 10, 11, 12, 13, 14, 15, 16, 17, 18, 19, 20, 21, 22, 23, 24, 25, 26, 27, 28, 29, 30, 31, 32, 33, 34, 35, 36, 37, 38, 39, 40, 41, 42, 43, 44, 45, 46, 47, 48, 49, 50, 51, 52, 53, 54, 55, 56, 57, 58, 59, 60, 61, 62, 63, 64, 65, 66, 67, 68, 69, 70, 71, 72, 73, 74, 75, 76, 77, 78, 79, 80, 81, 82, 83, 84, 85, 86, 87, 88, 89, 90, 91, 92, 93, 94, 95, 96, 97, 98, 99, 100, 101, 102, 103, 104, 105, 106, 107, 435, 436, 437, 438, 439, 440, 441, 442, 443, 444, 445, 446, 447, 448, 449, 450, 451] (by decide +kernel) (by decide +kernel)
set_option maxRecDepth 20000 in
theorem gL_refusesAny_X7_count : GoodIn wsL_refusesAny (wsV RL 11 RX7 yX7_count wsX7_count) := goodIn_app (goodIn_of _ (by decide +kernel)) ggL_refusesAny_X7_count
set_option maxRecDepth 20000 in
theorem ggL_refusesAny_X7_set : GoodIn wsL_refusesAny wsX7_set := goodIn_r _ [111, 9, 10, 17, 13, 14, 112, 113, 114, 115, 116, 117, 118, 119, 120, 121, 122, 123, 124, 125, 42, 126, 127, 128, 129, 130, 131, 49, 132, 48, 133, 134, 435, 436, 437, 438, 439, 440, 441, 442, 443, 444, 445, 446, 450, 451] (by decide +kernel) (by decide +kernel)
set_option maxRecDepth 20000 in
theorem gL_refusesAny_X7_set : GoodIn wsL_refusesAny (wsV RL 24 RX7 yX7_set wsX7_set) := goodIn_app (goodIn_of _ (by decide +kernel)) ggL_refusesAny_X7_set
set_option maxRecDepth 20000 in
theorem ggL_refusesAny_X7_point : GoodIn wsL_refusesAny wsX7_point := goodIn_r _ [138, 9, 10, 17, 139, 93, 73, 94, 140, 96, 97, 141, 142, 143, 42, 144, 132, 145, 146, 147, 148, 149, 150, 151, 152, 127, 153, 154, 155, 156, 112, 113, 114, 115, 116, 117, 118, 119, 120, 121, 122, 123, 124, 125, 126, 128, 129, 130, 131, 49, 48, 133, 134, 157, 158, 159, 22, 160, 31, 161, 162, 163, 164, 165, 166, 167, 168, 38, 106, 99, 100, 19, 20, 21, 23, 24, 25, 26, 27, 28, 29, 30, 32, 33, 34, 35, 36, 37, 39, 40, 41, 43, 44, 45, 46, 47, 435, 436, 437, 438, 439, 440, 441, 442, 443, 444, 445, 446, 450, 451] (by decide +kernel) (by decide +kernel)
set_option maxRecDepth 20000 in
theorem gL_refusesAny_X7_point : GoodIn wsL_refusesAny (wsV RL 29 RX7 yX7_point wsX7_point) := goodIn_app (goodIn_of _ (by decide +kernel)) ggL_refusesAny_X7_point
set_option maxRecDepth 20000 in
theorem ggL_refusesAny_X7_take : GoodIn wsL_refusesAny wsX7_take := goodIn_r _ [172, 9, 10, 17, 173, 154, 155, 42, 156, 132, 112, 113, 114, 115, 116, 117, 118, 119, 120, 121, 122, 123, 124, 125, 126, 127, 128, 129, 130, 131, 49, 48, 133, 134, 174, 175, 176, 22, 177, 31, 178, 150, 151, 152, 153, 165, 166, 167, 168, 38, 106, 99, 73, 100, 179, 180, 181, 182, 19, 20, 21, 23, 24, 25, 26, 27, 28, 29, 30, 32, 33, 34, 35, 36, 37, 39, 40, 41, 43, 44, 45, 46, 47, 435, 436, 437, 438, 439, 440, 441, 442, 443, 444, 445, 446, 450, 451] (by decide +kernel) (by decide +kernel)
set_option maxRecDepth 20000 in
theorem gL_refusesAny_X7_take : GoodIn wsL_refusesAny (wsV RL 32 RX7 yX7_take wsX7_take) := goodIn_app (goodIn_of _ (by decide +kernel)) ggL_refusesAny_X7_take
set_option maxRecDepth 20000 in
theorem ggL_refusesAny_X7_move : GoodIn wsL_refusesAny wsX7_move := goodIn_r _ [186, 9, 10, 17, 173, 154, 155, 42, 156, 132, 139, 93, 73, 94, 140, 96, 97, 187, 146, 147, 148, 149, 150, 151, 152, 127, 153, 112, 113, 114, 115, 116, 117, 118, 119, 120, 121, 122, 123, 124, 125, 126, 128, 129, 130, 131, 49, 48, 133, 134, 188, 189, 190, 22, 191, 31, 178, 165, 166, 167, 168, 38, 106, 99, 100, 192, 193, 194, 195, 19, 20, 21, 23, 24, 25, 26, 27, 28, 29, 30, 32, 33, 34, 35, 36, 37, 39, 40, 41, 43, 44, 45, 46, 47, 435, 436, 437, 438, 439, 440, 441, 442, 443, 444, 445, 446, 450, 451] (by decide +kernel) (by decide +kernel)
set_option maxRecDepth 20000 in
theorem gL_refusesAny_X7_move : GoodIn wsL_refusesAny (wsV RL 35 RX7 yX7_move wsX7_move) := goodIn_app (goodIn_of _ (by decide +kernel)) ggL_refusesAny_X7_move
set_option maxRecDepth 20000 in
theorem ggL_refusesAny_X7_split : GoodIn wsL_refusesAny wsX7_split := goodIn_r _ [199, 9, 10, 12, 17, 200, 201, 73, 202, 203, 40, 41, 42, 43, 44, 45, 46, 47, 48, 49, 112, 113, 114, 115, 116, 117, 118, 119, 120, 121, 122, 123, 124, 125, 126, 127, 128, 129, 130, 131, 132, 133, 134, 204, 205, 206, 207, 208, 209, 210, 211, 19, 20, 21, 22, 23, 24, 25, 26, 27, 28, 29, 30, 31, 32, 33, 34, 35, 36, 37, 38, 39, 435, 436, 437, 438, 439, 440, 441, 442, 443, 444, 445, 446, 450, 451] (by decide +kernel) (by decide +kernel)
set_option maxRecDepth 20000 in
theorem gL_refusesAny_X7_split : GoodIn wsL_refusesAny (wsV RL 39 RX7 yX7_split wsX7_split) := goodIn_app (goodIn_of _ (by decide +kernel)) ggL_refusesAny_X7_split
set_option maxRecDepth 20000 in
theorem ggL_refusesAny_X7_putAll : GoodIn wsL_refusesAny wsX7_putAll := goodIn_r _ [215, 15, 17, 9, 10, 216, 217, 218, 219, 220, 221, 222, 223, 224, 225, 226, 227, 228, 229, 230, 231, 232, 112, 113, 114, 115, 116, 117, 118, 119, 120, 121, 122, 123, 124, 125, 42, 126, 127, 128, 129, 130, 131, 49, 132, 48, 133, 134, 233, 234, 235, 236, 237, 238, 96, 73, 97, 239, 240, 241, 242, 141, 142, 143, 144, 145, 146, 147, 148, 149, 150, 151, 152, 153, 154, 155, 156, 157, 158, 159, 22, 160, 31, 161, 162, 163, 164, 165, 166, 167, 168, 38, 106, 99, 100, 243, 244, 245, 246, 435, 436, 437, 438, 439, 440, 447, 448, 449, 450, 451, 441, 442, 443, 444, 445, 446] (by decide +kernel) (by decide +kernel)
set_option maxRecDepth 20000 in
theorem gL_refusesAny_X7_putAll : GoodIn wsL_refusesAny (wsV RL 43 RX7 yX7_putAll wsX7_putAll) := goodIn_app (goodIn_of _ (by decide +kernel)) ggL_refusesAny_X7_putAll
set_option maxRecDepth 20000 in
theorem ggL_refusesAny_X7_of : GoodIn wsL_refusesAny wsX7_of := goodIn_r _ [250, 9, 10, 173, 154, 155, 42, 156, 132, 251, 150, 151, 152, 127, 153, 252, 81, 73, 82, 83, 84, 85, 86, 87, 88, 253, 90, 91, 254, 255, 256, 22, 257, 102, 103, 104, 105, 106, 99, 100, 27, 28, 29, 30, 31, 32, 33, 34, 35, 36, 37, 38, 39, 40, 41, 43, 44, 45, 46, 47, 48, 49, 258, 259, 260, 261, 149, 435, 436, 437, 438, 439, 440, 441, 442, 443, 444, 445, 446] (by decide +kernel) (by decide +kernel)
set_option maxRecDepth 20000 in
theorem gL_refusesAny_X7_of : GoodIn wsL_refusesAny (wsV RL 17 RX7 yX7_of wsX7_of) := goodIn_app (goodIn_of _ (by decide +kernel)) ggL_refusesAny_X7_of
set_option maxRecDepth 20000 in
theorem ggL_refusesAny_X7_leafAt : GoodIn wsL_refusesAny wsX7_leafAt := goodIn_r _ [265, 9, 139, 93, 73, 94, 140, 96, 97, 254, 255, 256, 22, 257, 102, 103, 104, 105, 106, 99, 100, 27, 28, 29, 30, 31, 32, 33, 34, 35, 36, 37, 38, 39, 40, 41, 42, 43, 44, 45, 46, 47, 48, 49, 435, 436, 437, 438, 439, 440, 441, 442, 443, 444, 445, 446] (by decide +kernel) (by decide +kernel)
set_option maxRecDepth 20000 in
theorem gL_refusesAny_X7_leafAt : GoodIn wsL_refusesAny (wsV RL 47 RX7 yX7_leafAt wsX7_leafAt) := goodIn_app (goodIn_of _ (by decide +kernel)) ggL_refusesAny_X7_leafAt
set_option maxRecDepth 20000 in
theorem ggL_refusesAny_X7_tile : GoodIn wsL_refusesAny wsX7_tile := goodIn_r _ [269, 9, 10, 200, 201, 73, 202, 252, 81, 82, 83, 84, 85, 86, 87, 88, 253, 90, 91, 270, 78, 79, 271, 35, 36, 22, 37, 38, 272, 273, 274, 275, 276, 277, 278, 279, 106, 99, 100, 27, 28, 29, 30, 31, 32, 33, 34, 39, 40, 41, 42, 43, 44, 45, 46, 47, 48, 49, 203, 280, 25, 26, 24, 435, 436, 437, 438, 439, 440, 441, 442, 443, 444, 445, 446] (by decide +kernel) (by decide +kernel)
set_option maxRecDepth 20000 in
theorem gL_refusesAny_X7_tile : GoodIn wsL_refusesAny (wsV RL 21 RX7 yX7_tile wsX7_tile) := goodIn_app (goodIn_of _ (by decide +kernel)) ggL_refusesAny_X7_tile
set_option maxRecDepth 20000 in
theorem ggL_refusesAny_X7_letter : GoodIn wsL_refusesAny wsX7_letter := goodIn_r _ [284, 200, 201, 73, 202, 285, 99, 100] (by decide +kernel) (by decide +kernel)
set_option maxRecDepth 20000 in
theorem gL_refusesAny_X7_letter : GoodIn wsL_refusesAny (wsV RL 50 RX7 yX7_letter wsX7_letter) := goodIn_app (goodIn_of _ (by decide +kernel)) ggL_refusesAny_X7_letter
set_option maxRecDepth 20000 in
theorem ggL_refusesAny_X7_beside : GoodIn wsL_refusesAny wsX7_beside := goodIn_r _ [289, 9, 200, 201, 73, 202, 290, 72, 74, 75, 76, 77, 78, 79, 80, 81, 82, 83, 84, 85, 86, 87, 88, 89, 90, 91, 92, 93, 94, 95, 96, 97, 98, 99, 100, 291, 292, 293, 22, 294, 295, 296, 59, 297, 101, 102, 103, 104, 105, 106, 27, 28, 29, 30, 31, 32, 33, 34, 35, 36, 37, 38, 39, 40, 41, 42, 43, 44, 45, 46, 47, 48, 49, 435, 436, 437, 438, 439, 440, 441, 442, 443, 444, 445, 446] (by decide +kernel) (by decide +kernel)
set_option maxRecDepth 20000 in
theorem gL_refusesAny_X7_beside : GoodIn wsL_refusesAny (wsV RL 53 RX7 yX7_beside wsX7_beside) := goodIn_app (goodIn_of _ (by decide +kernel)) ggL_refusesAny_X7_beside
set_option maxRecDepth 20000 in
theorem ggL_refusesAny_X7_neighbours : GoodIn wsL_refusesAny wsX7_neighbours := goodIn_r _ [301, 9, 200, 201, 73, 202, 272, 273, 274, 22, 275, 276, 277, 278, 279, 106, 99, 100, 27, 28, 29, 30, 31, 32, 33, 34, 35, 36, 37, 38, 39, 40, 41, 42, 43, 44, 45, 46, 47, 48, 49, 302, 303, 304, 305, 71, 72, 74, 75, 76, 77, 78, 79, 80, 81, 82, 83, 84, 85, 86, 87, 88, 89, 90, 91, 92, 93, 94, 95, 96, 97, 98, 306, 307, 308, 309, 310, 435, 436, 437, 438, 439, 440, 441, 442, 443, 444, 445, 446] (by decide +kernel) (by decide +kernel)
set_option maxRecDepth 20000 in
theorem gL_refusesAny_X7_neighbours : GoodIn wsL_refusesAny (wsV RL 56 RX7 yX7_neighbours wsX7_neighbours) := goodIn_app (goodIn_of _ (by decide +kernel)) ggL_refusesAny_X7_neighbours
set_option maxRecDepth 20000 in
theorem ggL_refusesAny_X7_window : GoodIn wsL_refusesAny wsX7_window := goodIn_r _ [314, 315, 316, 317, 9, 10, 139, 93, 73, 94, 318, 319, 320, 321, 322, 323, 324, 325, 326, 327, 328, 329, 330, 42, 331, 132, 149, 150, 151, 152, 127, 153, 154, 155, 156, 332, 333, 334, 335, 336, 81, 82, 83, 84, 85, 86, 87, 88, 337, 90, 91, 338, 78, 79, 339, 22, 340, 341, 27, 28, 29, 30, 31, 32, 33, 34, 35, 36, 37, 38, 39, 40, 41, 43, 44, 45, 46, 47, 48, 49, 342, 343, 344, 345, 346, 347, 348, 349, 350, 351, 352, 353, 354, 96, 97, 102, 103, 104, 105, 106, 99, 100, 452, 453, 454, 455, 435, 436, 437, 438, 439, 440, 441, 442, 443, 444, 445, 446] (by decide +kernel) (by decide +kernel)
set_option maxRecDepth 20000 in
theorem gL_refusesAny_X7_window : GoodIn wsL_refusesAny (wsV RL 59 RX7 yX7_window wsX7_window) := goodIn_app (goodIn_of _ (by decide +kernel)) ggL_refusesAny_X7_window
set_option maxRecDepth 20000 in
theorem ggL_refusesAny_X7_nearest : GoodIn wsL_refusesAny wsX7_nearest := goodIn_r _ [358, 9, 10, 11, 139, 93, 73, 94, 251, 150, 151, 42, 152, 127, 153, 154, 155, 156, 132, 359, 360, 361, 80, 81, 82, 83, 84, 85, 86, 87, 88, 89, 90, 91, 435, 436, 437, 438, 439, 440, 441, 442, 443, 444, 445, 446] (by decide +kernel) (by decide +kernel)
set_option maxRecDepth 20000 in
theorem gL_refusesAny_X7_nearest : GoodIn wsL_refusesAny (wsV RL 63 RX7 yX7_nearest wsX7_nearest) := goodIn_app (goodIn_of _ (by decide +kernel)) ggL_refusesAny_X7_nearest
set_option maxRecDepth 20000 in
theorem ggL_refusesAny_X7_ifPut : GoodIn wsL_refusesAny wsX7_ifPut := goodIn_r _ [365, 9, 10, 139, 93, 73, 94, 140, 96, 97, 141, 142, 143, 42, 144, 132, 145, 146, 147, 148, 149, 150, 151, 152, 127, 153, 154, 155, 156, 366, 367, 368, 22, 369, 165, 166, 167, 168, 38, 106, 99, 100, 54, 20, 21, 23, 24, 25, 26, 27, 28, 29, 30, 31, 32, 33, 34, 35, 36, 37, 39, 40, 41, 43, 44, 45, 46, 47, 48, 49, 370, 371, 372, 373, 102, 103, 104, 105, 435, 436, 437, 438, 439, 440, 441, 442, 443, 444, 445, 446] (by decide +kernel) (by decide +kernel)
set_option maxRecDepth 20000 in
theorem gL_refusesAny_X7_ifPut : GoodIn wsL_refusesAny (wsV RL 66 RX7 yX7_ifPut wsX7_ifPut) := goodIn_app (goodIn_of _ (by decide +kernel)) ggL_refusesAny_X7_ifPut
set_option maxRecDepth 20000 in
theorem ggL_refusesAny_X7_leastFull : GoodIn wsL_refusesAny wsX7_leastFull := goodIn_r _ [377, 9, 378, 379, 380, 22, 381, 31, 33, 54, 20, 21, 23, 24, 25, 26, 27, 28, 29, 30, 32, 34, 35, 36, 37, 38, 39, 40, 41, 42, 43, 44, 45, 46, 47, 48, 49, 435, 436, 437, 438, 439, 440, 441, 442, 443, 444, 445, 446] (by decide +kernel) (by decide +kernel)
set_option maxRecDepth 20000 in
theorem gL_refusesAny_X7_leastFull : GoodIn wsL_refusesAny (wsV RL 69 RX7 yX7_leastFull wsX7_leastFull) := goodIn_app (goodIn_of _ (by decide +kernel)) ggL_refusesAny_X7_leastFull
set_option maxRecDepth 20000 in
theorem ggL_refusesAny_X7_save : GoodIn wsL_refusesAny wsX7_save := goodIn_r _ [385, 386, 9, 10, 11, 387, 388, 389, 390, 391, 392, 393, 394, 395, 396, 397, 398, 124, 125, 42, 126, 127, 128, 129, 130, 131, 49, 132, 48, 133, 134, 435, 436, 437, 438, 439, 440, 441, 442, 443, 444, 445, 446, 456, 457] (by decide +kernel) (by decide +kernel)
set_option maxRecDepth 20000 in
theorem gL_refusesAny_X7_save : GoodIn wsL_refusesAny (wsV RL 72 RX7 yX7_save wsX7_save) := goodIn_app (goodIn_of _ (by decide +kernel)) ggL_refusesAny_X7_save
set_option maxRecDepth 20000 in
theorem ggL_refusesAny_X7_restore : GoodIn wsL_refusesAny wsX7_restore := goodIn_r _ [402, 386, 17, 9, 10, 11, 387, 388, 389, 390, 403, 404, 405, 406, 396, 397, 112, 113, 114, 115, 116, 117, 118, 119, 120, 121, 122, 123, 124, 125, 42, 126, 127, 128, 129, 130, 131, 49, 132, 48, 133, 134, 407, 408, 409, 410, 395, 411, 412, 413, 22, 414, 31, 415, 416, 417, 418, 419, 178, 150, 151, 152, 153, 154, 155, 156, 165, 166, 167, 168, 38, 106, 99, 73, 100, 420, 435, 436, 437, 438, 439, 440, 441, 442, 443, 444, 445, 446, 456, 457, 450, 451] (by decide +kernel) (by decide +kernel)
set_option maxRecDepth 20000 in
theorem gL_refusesAny_X7_restore : GoodIn wsL_refusesAny (wsV RL 75 RX7 yX7_restore wsX7_restore) := goodIn_app (goodIn_of _ (by decide +kernel)) ggL_refusesAny_X7_restore
set_option maxRecDepth 20000 in
theorem ggL_refusesAny_X7_put : GoodIn wsL_refusesAny wsX7_put := goodIn_r _ [424, 15, 16, 425, 426, 219, 427, 428, 429, 430, 431, 432, 433, 434, 221, 226, 435, 436, 437, 438, 447, 448, 449] (by decide +kernel) (by decide +kernel)
set_option maxRecDepth 20000 in
theorem gL_refusesAny_X7_put : GoodIn wsL_refusesAny (wsV RL 80 RX7 yX7_put wsX7_put) := goodIn_app (goodIn_of _ (by decide +kernel)) ggL_refusesAny_X7_put
theorem dL_refusesAny_0 : decode cL_refusesAny 0 = .ok (.iload_n 1, 1) := by decide +kernel
theorem dL_refusesAny_1 : decode cL_refusesAny 1 = .ok (.ifCond .ne 7, 3) := by decide +kernel
theorem dL_refusesAny_4 : decode cL_refusesAny 4 = .ok (.iconst (-1), 1) := by decide +kernel
theorem dL_refusesAny_5 : decode cL_refusesAny 5 = .ok (.goto 5, 3) := by decide +kernel
theorem dL_refusesAny_8 : decode cL_refusesAny 8 = .ok (.bipush 64, 2) := by decide +kernel
theorem dL_refusesAny_10 : decode cL_refusesAny 10 = .ok (.istore_n 2, 1) := by decide +kernel
theorem dL_refusesAny_11 : decode cL_refusesAny 11 = .ok (.iload_n 1, 1) := by decide +kernel
theorem dL_refusesAny_12 : decode cL_refusesAny 12 = .ok (.ifCond .ne 7, 3) := by decide +kernel
theorem dL_refusesAny_15 : decode cL_refusesAny 15 = .ok (.iconst (-1), 1) := by decide +kernel
theorem dL_refusesAny_16 : decode cL_refusesAny 16 = .ok (.goto 8, 3) := by decide +kernel
theorem dL_refusesAny_19 : decode cL_refusesAny 19 = .ok (.aload_n 0, 1) := by decide +kernel
theorem dL_refusesAny_20 : decode cL_refusesAny 20 = .ok (.iconst 0, 1) := by decide +kernel
theorem dL_refusesAny_21 : decode cL_refusesAny 21 = .ok (.invokevirtual 11, 3) := by decide +kernel
theorem dL_refusesAny_24 : decode cL_refusesAny 24 = .ok (.istore_n 3, 1) := by decide +kernel
theorem dL_refusesAny_25 : decode cL_refusesAny 25 = .ok (.iload_n 1, 1) := by decide +kernel
theorem dL_refusesAny_26 : decode cL_refusesAny 26 = .ok (.ifCond .ne 7, 3) := by decide +kernel
theorem dL_refusesAny_29 : decode cL_refusesAny 29 = .ok (.iconst 0, 1) := by decide +kernel
theorem dL_refusesAny_30 : decode cL_refusesAny 30 = .ok (.goto 6, 3) := by decide +kernel
theorem dL_refusesAny_33 : decode cL_refusesAny 33 = .ok (.sipush 8192, 3) := by decide +kernel
theorem dL_refusesAny_36 : decode cL_refusesAny 36 = .ok (.istore 4, 2) := by decide +kernel
theorem dL_refusesAny_38 : decode cL_refusesAny 38 = .ok (.aload_n 0, 1) := by decide +kernel
theorem dL_refusesAny_39 : decode cL_refusesAny 39 = .ok (.iload_n 1, 1) := by decide +kernel
theorem dL_refusesAny_40 : decode cL_refusesAny 40 = .ok (.ifCond .ne 7, 3) := by decide +kernel
theorem dL_refusesAny_43 : decode cL_refusesAny 43 = .ok (.iconst (-1), 1) := by decide +kernel
theorem dL_refusesAny_44 : decode cL_refusesAny 44 = .ok (.goto 4, 3) := by decide +kernel
theorem dL_refusesAny_47 : decode cL_refusesAny 47 = .ok (.iconst 2, 1) := by decide +kernel
theorem dL_refusesAny_48 : decode cL_refusesAny 48 = .ok (.iconst 1, 1) := by decide +kernel
theorem dL_refusesAny_49 : decode cL_refusesAny 49 = .ok (.invokevirtual 24, 3) := by decide +kernel
theorem dL_refusesAny_52 : decode cL_refusesAny 52 = .ok (.bipush (-2), 2) := by decide +kernel
theorem dL_refusesAny_54 : decode cL_refusesAny 54 = .ok (.if_icmp .ne 199, 3) := by decide +kernel
theorem dL_refusesAny_57 : decode cL_refusesAny 57 = .ok (.aload_n 0, 1) := by decide +kernel
theorem dL_refusesAny_58 : decode cL_refusesAny 58 = .ok (.iconst 0, 1) := by decide +kernel
theorem dL_refusesAny_59 : decode cL_refusesAny 59 = .ok (.iload_n 1, 1) := by decide +kernel
theorem dL_refusesAny_60 : decode cL_refusesAny 60 = .ok (.ifCond .ne 7, 3) := by decide +kernel
theorem dL_refusesAny_63 : decode cL_refusesAny 63 = .ok (.iconst 0, 1) := by decide +kernel
theorem dL_refusesAny_64 : decode cL_refusesAny 64 = .ok (.goto 5, 3) := by decide +kernel
theorem dL_refusesAny_67 : decode cL_refusesAny 67 = .ok (.bipush 9, 2) := by decide +kernel
theorem dL_refusesAny_69 : decode cL_refusesAny 69 = .ok (.invokevirtual 24, 3) := by decide +kernel
theorem dL_refusesAny_72 : decode cL_refusesAny 72 = .ok (.bipush (-2), 2) := by decide +kernel
theorem dL_refusesAny_74 : decode cL_refusesAny 74 = .ok (.if_icmp .ne 179, 3) := by decide +kernel
theorem dL_refusesAny_77 : decode cL_refusesAny 77 = .ok (.aload_n 0, 1) := by decide +kernel
theorem dL_refusesAny_78 : decode cL_refusesAny 78 = .ok (.iconst 1, 1) := by decide +kernel
theorem dL_refusesAny_79 : decode cL_refusesAny 79 = .ok (.iload_n 1, 1) := by decide +kernel
theorem dL_refusesAny_80 : decode cL_refusesAny 80 = .ok (.ifCond .ne 7, 3) := by decide +kernel
theorem dL_refusesAny_83 : decode cL_refusesAny 83 = .ok (.iconst 0, 1) := by decide +kernel
theorem dL_refusesAny_84 : decode cL_refusesAny 84 = .ok (.goto 5, 3) := by decide +kernel
theorem dL_refusesAny_87 : decode cL_refusesAny 87 = .ok (.bipush 7, 2) := by decide +kernel
theorem dL_refusesAny_89 : decode cL_refusesAny 89 = .ok (.invokevirtual 24, 3) := by decide +kernel
theorem dL_refusesAny_92 : decode cL_refusesAny 92 = .ok (.bipush (-2), 2) := by decide +kernel
theorem dL_refusesAny_94 : decode cL_refusesAny 94 = .ok (.if_icmp .ne 159, 3) := by decide +kernel
theorem dL_refusesAny_97 : decode cL_refusesAny 97 = .ok (.aload_n 0, 1) := by decide +kernel
theorem dL_refusesAny_98 : decode cL_refusesAny 98 = .ok (.iload_n 2, 1) := by decide +kernel
theorem dL_refusesAny_99 : decode cL_refusesAny 99 = .ok (.iconst 0, 1) := by decide +kernel
theorem dL_refusesAny_100 : decode cL_refusesAny 100 = .ok (.invokevirtual 29, 3) := by decide +kernel
theorem dL_refusesAny_103 : decode cL_refusesAny 103 = .ok (.iconst (-1), 1) := by decide +kernel
theorem dL_refusesAny_104 : decode cL_refusesAny 104 = .ok (.if_icmp .ne 149, 3) := by decide +kernel
theorem dL_refusesAny_107 : decode cL_refusesAny 107 = .ok (.aload_n 0, 1) := by decide +kernel
theorem dL_refusesAny_108 : decode cL_refusesAny 108 = .ok (.iconst 0, 1) := by decide +kernel
theorem dL_refusesAny_109 : decode cL_refusesAny 109 = .ok (.iload_n 2, 1) := by decide +kernel
theorem dL_refusesAny_110 : decode cL_refusesAny 110 = .ok (.invokevirtual 29, 3) := by decide +kernel
theorem dL_refusesAny_113 : decode cL_refusesAny 113 = .ok (.iconst (-1), 1) := by decide +kernel
theorem dL_refusesAny_114 : decode cL_refusesAny 114 = .ok (.if_icmp .ne 139, 3) := by decide +kernel
theorem dL_refusesAny_117 : decode cL_refusesAny 117 = .ok (.aload_n 0, 1) := by decide +kernel
theorem dL_refusesAny_118 : decode cL_refusesAny 118 = .ok (.iload_n 3, 1) := by decide +kernel
theorem dL_refusesAny_119 : decode cL_refusesAny 119 = .ok (.invokevirtual 32, 3) := by decide +kernel
theorem dL_refusesAny_122 : decode cL_refusesAny 122 = .ok (.iconst (-1), 1) := by decide +kernel
theorem dL_refusesAny_123 : decode cL_refusesAny 123 = .ok (.if_icmp .ne 130, 3) := by decide +kernel
