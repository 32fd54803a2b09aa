theorem dL_part_0 : decode cL_part 0 = .ok (.iload_n 0, 1) := by decide +kernel
theorem dL_part_1 : decode cL_part 1 = .ok (.ldc 7, 2) := by decide +kernel
theorem dL_part_3 : decode cL_part 3 = .ok (.iand, 1) := by decide +kernel
theorem dL_part_4 : decode cL_part 4 = .ok (.iload_n 1, 1) := by decide +kernel
theorem dL_part_5 : decode cL_part 5 = .ok (.irem, 1) := by decide +kernel
theorem dL_part_6 : decode cL_part 6 = .ok (.ireturn, 1) := by decide +kernel
theorem dL_drawn_0 : decode cL_drawn 0 = .ok (.aload_n 0, 1) := by decide +kernel
theorem dL_drawn_1 : decode cL_drawn 1 = .ok (.arraylength, 1) := by decide +kernel
theorem dL_drawn_2 : decode cL_drawn 2 = .ok (.ifCond .ne 13, 3) := by decide +kernel
theorem dL_drawn_5 : decode cL_drawn 5 = .ok (.sipush 7919, 3) := by decide +kernel
theorem dL_drawn_8 : decode cL_drawn 8 = .ok (.iload_n 1, 1) := by decide +kernel
theorem dL_drawn_9 : decode cL_drawn 9 = .ok (.imul, 1) := by decide +kernel
theorem dL_drawn_10 : decode cL_drawn 10 = .ok (.iconst 3, 1) := by decide +kernel
theorem dL_drawn_11 : decode cL_drawn 11 = .ok (.iadd, 1) := by decide +kernel
theorem dL_drawn_12 : decode cL_drawn 12 = .ok (.goto 27, 3) := by decide +kernel
theorem dL_drawn_15 : decode cL_drawn 15 = .ok (.aload_n 0, 1) := by decide +kernel
theorem dL_drawn_16 : decode cL_drawn 16 = .ok (.iload_n 1, 1) := by decide +kernel
theorem dL_drawn_17 : decode cL_drawn 17 = .ok (.aload_n 0, 1) := by decide +kernel
theorem dL_drawn_18 : decode cL_drawn 18 = .ok (.arraylength, 1) := by decide +kernel
theorem dL_drawn_19 : decode cL_drawn 19 = .ok (.irem, 1) := by decide +kernel
theorem dL_drawn_20 : decode cL_drawn 20 = .ok (.iaload, 1) := by decide +kernel
theorem dL_drawn_21 : decode cL_drawn 21 = .ok (.iload_n 1, 1) := by decide +kernel
theorem dL_drawn_22 : decode cL_drawn 22 = .ok (.bipush 7, 2) := by decide +kernel
theorem dL_drawn_24 : decode cL_drawn 24 = .ok (.irem, 1) := by decide +kernel
theorem dL_drawn_25 : decode cL_drawn 25 = .ok (.ishr, 1) := by decide +kernel
theorem dL_drawn_26 : decode cL_drawn 26 = .ok (.iload_n 1, 1) := by decide +kernel
theorem dL_drawn_27 : decode cL_drawn 27 = .ok (.aload_n 0, 1) := by decide +kernel
theorem dL_drawn_28 : decode cL_drawn 28 = .ok (.arraylength, 1) := by decide +kernel
theorem dL_drawn_29 : decode cL_drawn 29 = .ok (.idiv, 1) := by decide +kernel
theorem dL_drawn_30 : decode cL_drawn 30 = .ok (.bipush 31, 2) := by decide +kernel
theorem dL_drawn_32 : decode cL_drawn 32 = .ok (.imul, 1) := by decide +kernel
theorem dL_drawn_33 : decode cL_drawn 33 = .ok (.ixor, 1) := by decide +kernel
theorem dL_drawn_34 : decode cL_drawn 34 = .ok (.iload_n 1, 1) := by decide +kernel
theorem dL_drawn_35 : decode cL_drawn 35 = .ok (.ldc 8, 2) := by decide +kernel
theorem dL_drawn_37 : decode cL_drawn 37 = .ok (.imul, 1) := by decide +kernel
theorem dL_drawn_38 : decode cL_drawn 38 = .ok (.ixor, 1) := by decide +kernel
theorem dL_drawn_39 : decode cL_drawn 39 = .ok (.ireturn, 1) := by decide +kernel
set_option maxRecDepth 20000 in
theorem ggL_seen_X7_count : GoodIn wsL_seen wsX7_count := goodIn_r _ [6, 7, 8, 9, 10, 11, 12, 13, 14, 15, 16, 17, 18, 19, 20, 21, 22, 23, 24, 25, 26, 27, 28, 29, 30, 31, 32, 33, 34, 35, 36, 37, 38, 39, 40, 41, 42, 43, 44, 45, 46, 47, 48, 49, 50, 51, 52, 53, 54, 55, 56, 57, 58, 59, 60, 61, 62, 63, 64, 65, 66, 67, 68, 69, 70, 71, 72, 73, 74, 75, 76, 77, 78, 79, 80, 81, 82, 83, 84, 85, 86, 87, 88, 89, 90, 91, 92, 93, 94, 95, 96, 97, 98, 99, 100, 101, 102, 103, 104, 105, 151, 152, 153, 154, 155, 156, 157, 158, 159, 160, 161, 162, 163, 164, 165, 166, 167] (by decide +kernel) (by decide +kernel)
set_option maxRecDepth 20000 in
theorem gL_seen_X7_count : GoodIn wsL_seen (wsV RL 11 RX7 yX7_count wsX7_count) := goodIn_app (goodIn_of _ (by decide +kernel)) ggL_seen_X7_count
set_option maxRecDepth 20000 in
theorem ggL_seen_X7_of : GoodIn wsL_seen wsX7_of := goodIn_r _ [109, 7, 8, 110, 111, 112, 40, 113, 114, 115, 116, 117, 118, 119, 120, 121, 79, 71, 80, 81, 82, 83, 84, 85, 86, 122, 88, 89, 123, 124, 125, 20, 126, 100, 101, 102, 103, 104, 97, 98, 25, 26, 27, 28, 29, 30, 31, 32, 33, 34, 35, 36, 37, 38, 39, 41, 42, 43, 44, 45, 46, 47, 127, 128, 129, 130, 131, 151, 152, 153, 154, 155, 156, 157, 158, 159, 160, 161, 162] (by decide +kernel) (by decide +kernel)
set_option maxRecDepth 20000 in
theorem gL_seen_X7_of : GoodIn wsL_seen (wsV RL 17 RX7 yX7_of wsX7_of) := goodIn_app (goodIn_of _ (by decide +kernel)) ggL_seen_X7_of
set_option maxRecDepth 20000 in
theorem ggL_seen_X7_tile : GoodIn wsL_seen wsX7_tile := goodIn_r _ [135, 7, 8, 136, 137, 71, 138, 121, 79, 80, 81, 82, 83, 84, 85, 86, 122, 88, 89, 139, 76, 77, 140, 33, 34, 20, 35, 36, 141, 142, 143, 144, 145, 146, 147, 148, 104, 97, 98, 25, 26, 27, 28, 29, 30, 31, 32, 37, 38, 39, 40, 41, 42, 43, 44, 45, 46, 47, 149, 150, 23, 24, 22, 151, 152, 153, 154, 155, 156, 157, 158, 159, 160, 161, 162] (by decide +kernel) (by decide +kernel)
set_option maxRecDepth 20000 in
theorem gL_seen_X7_tile : GoodIn wsL_seen (wsV RL 21 RX7 yX7_tile wsX7_tile) := goodIn_app (goodIn_of _ (by decide +kernel)) ggL_seen_X7_tile
theorem dL_seen_0 : decode cL_seen 0 = .ok (.ldc2_w 9, 3) := by decide +kernel
theorem dL_seen_3 : decode cL_seen 3 = .ok (.lstore_n 1, 1) := by decide +kernel
theorem dL_seen_4 : decode cL_seen 4 = .ok (.iconst 0, 1) := by decide +kernel
theorem dL_seen_5 : decode cL_seen 5 = .ok (.istore_n 3, 1) := by decide +kernel
theorem dL_seen_6 : decode cL_seen 6 = .ok (.iload_n 3, 1) := by decide +kernel
theorem dL_seen_7 : decode cL_seen 7 = .ok (.bipush 9, 2) := by decide +kernel
theorem dL_seen_9 : decode cL_seen 9 = .ok (.if_icmp .ge 22, 3) := by decide +kernel
theorem dL_seen_12 : decode cL_seen 12 = .ok (.ldc2_w 9, 3) := by decide +kernel
theorem dL_seen_15 : decode cL_seen 15 = .ok (.lload_n 1, 1) := by decide +kernel
theorem dL_seen_16 : decode cL_seen 16 = .ok (.lmul, 1) := by decide +kernel
theorem dL_seen_17 : decode cL_seen 17 = .ok (.aload_n 0, 1) := by decide +kernel
theorem dL_seen_18 : decode cL_seen 18 = .ok (.iload_n 3, 1) := by decide +kernel
theorem dL_seen_19 : decode cL_seen 19 = .ok (.invokevirtual 11, 3) := by decide +kernel
theorem dL_seen_22 : decode cL_seen 22 = .ok (.i2l, 1) := by decide +kernel
theorem dL_seen_23 : decode cL_seen 23 = .ok (.ladd, 1) := by decide +kernel
theorem dL_seen_24 : decode cL_seen 24 = .ok (.lstore_n 1, 1) := by decide +kernel
theorem dL_seen_25 : decode cL_seen 25 = .ok (.iinc 3 1, 3) := by decide +kernel
theorem dL_seen_28 : decode cL_seen 28 = .ok (.goto (-22), 3) := by decide +kernel
theorem dL_seen_31 : decode cL_seen 31 = .ok (.iconst 0, 1) := by decide +kernel
theorem dL_seen_32 : decode cL_seen 32 = .ok (.istore_n 3, 1) := by decide +kernel
theorem dL_seen_33 : decode cL_seen 33 = .ok (.iload_n 3, 1) := by decide +kernel
theorem dL_seen_34 : decode cL_seen 34 = .ok (.iconst 4, 1) := by decide +kernel
theorem dL_seen_35 : decode cL_seen 35 = .ok (.aload_n 0, 1) := by decide +kernel
theorem dL_seen_36 : decode cL_seen 36 = .ok (.iconst 0, 1) := by decide +kernel
theorem dL_seen_37 : decode cL_seen 37 = .ok (.invokevirtual 11, 3) := by decide +kernel
theorem dL_seen_40 : decode cL_seen 40 = .ok (.imul, 1) := by decide +kernel
theorem dL_seen_41 : decode cL_seen 41 = .ok (.if_icmp .ge 27, 3) := by decide +kernel
theorem dL_seen_44 : decode cL_seen 44 = .ok (.ldc2_w 9, 3) := by decide +kernel
theorem dL_seen_47 : decode cL_seen 47 = .ok (.lload_n 1, 1) := by decide +kernel
theorem dL_seen_48 : decode cL_seen 48 = .ok (.lmul, 1) := by decide +kernel
theorem dL_seen_49 : decode cL_seen 49 = .ok (.aload_n 0, 1) := by decide +kernel
theorem dL_seen_50 : decode cL_seen 50 = .ok (.iload_n 3, 1) := by decide +kernel
theorem dL_seen_51 : decode cL_seen 51 = .ok (.iconst 4, 1) := by decide +kernel
theorem dL_seen_52 : decode cL_seen 52 = .ok (.idiv, 1) := by decide +kernel
theorem dL_seen_53 : decode cL_seen 53 = .ok (.iload_n 3, 1) := by decide +kernel
theorem dL_seen_54 : decode cL_seen 54 = .ok (.iconst 4, 1) := by decide +kernel
theorem dL_seen_55 : decode cL_seen 55 = .ok (.irem, 1) := by decide +kernel
theorem dL_seen_56 : decode cL_seen 56 = .ok (.invokevirtual 17, 3) := by decide +kernel
theorem dL_seen_59 : decode cL_seen 59 = .ok (.i2l, 1) := by decide +kernel
theorem dL_seen_60 : decode cL_seen 60 = .ok (.ladd, 1) := by decide +kernel
theorem dL_seen_61 : decode cL_seen 61 = .ok (.lstore_n 1, 1) := by decide +kernel
theorem dL_seen_62 : decode cL_seen 62 = .ok (.iinc 3 1, 3) := by decide +kernel
theorem dL_seen_65 : decode cL_seen 65 = .ok (.goto (-32), 3) := by decide +kernel
theorem dL_seen_68 : decode cL_seen 68 = .ok (.iconst 1, 1) := by decide +kernel
theorem dL_seen_69 : decode cL_seen 69 = .ok (.istore_n 3, 1) := by decide +kernel
theorem dL_seen_70 : decode cL_seen 70 = .ok (.iload_n 3, 1) := by decide +kernel
theorem dL_seen_71 : decode cL_seen 71 = .ok (.bipush 32, 2) := by decide +kernel
theorem dL_seen_73 : decode cL_seen 73 = .ok (.if_icmp .ge 37, 3) := by decide +kernel
theorem dL_seen_76 : decode cL_seen 76 = .ok (.ldc2_w 9, 3) := by decide +kernel
theorem dL_seen_79 : decode cL_seen 79 = .ok (.ldc2_w 9, 3) := by decide +kernel
theorem dL_seen_82 : decode cL_seen 82 = .ok (.lload_n 1, 1) := by decide +kernel
theorem dL_seen_83 : decode cL_seen 83 = .ok (.lmul, 1) := by decide +kernel
theorem dL_seen_84 : decode cL_seen 84 = .ok (.aload_n 0, 1) := by decide +kernel
theorem dL_seen_85 : decode cL_seen 85 = .ok (.iload_n 3, 1) := by decide +kernel
theorem dL_seen_86 : decode cL_seen 86 = .ok (.bipush 6, 2) := by decide +kernel
theorem dL_seen_88 : decode cL_seen 88 = .ok (.invokevirtual 21, 3) := by decide +kernel
theorem dL_seen_91 : decode cL_seen 91 = .ok (.i2l, 1) := by decide +kernel
theorem dL_seen_92 : decode cL_seen 92 = .ok (.ladd, 1) := by decide +kernel
theorem dL_seen_93 : decode cL_seen 93 = .ok (.lmul, 1) := by decide +kernel
theorem dL_seen_94 : decode cL_seen 94 = .ok (.aload_n 0, 1) := by decide +kernel
theorem dL_seen_95 : decode cL_seen 95 = .ok (.iload_n 3, 1) := by decide +kernel
theorem dL_seen_96 : decode cL_seen 96 = .ok (.bipush 7, 2) := by decide +kernel
theorem dL_seen_98 : decode cL_seen 98 = .ok (.invokevirtual 21, 3) := by decide +kernel
theorem dL_seen_101 : decode cL_seen 101 = .ok (.i2l, 1) := by decide +kernel
theorem dL_seen_102 : decode cL_seen 102 = .ok (.ladd, 1) := by decide +kernel
theorem dL_seen_103 : decode cL_seen 103 = .ok (.lstore_n 1, 1) := by decide +kernel
theorem dL_seen_104 : decode cL_seen 104 = .ok (.iinc 3 1, 3) := by decide +kernel
theorem dL_seen_107 : decode cL_seen 107 = .ok (.goto (-37), 3) := by decide +kernel
theorem dL_seen_110 : decode cL_seen 110 = .ok (.lload_n 1, 1) := by decide +kernel
theorem dL_seen_111 : decode cL_seen 111 = .ok (.lreturn, 1) := by decide +kernel
set_option maxRecDepth 20000 in
theorem ggL_refusesAny_X7_count : GoodIn wsL_refusesAny wsX7_count := goodIn_r _ [8, 9, 10, 11, 12, 13, 14, 15, 16, 17, 18, 19, 20, 21, 22, 23, 24, 25, 26, 27, 28, 29, 30, 31, 32, 33, 34, 35, 36, 37, 38, 39, 40, 41, 42, 43, 44, 45, 46, 47, 48, 49, 50, 51, 52, 53, 54, 55, 56, 57, 58, 59, 60, 61, 62, 63, 64, 65, 66, 67, 68, 69, 70, 71, 72, 73, 74, 75, 76, 77, 78, 79, 80, 81, 82, 83, 84, 85, 86, 87, 88, 89, 90, 91, 92, 93, 94, 95, 96, 97, 98, 99, 100, 101, 102, 103, 104, 105, 106, 107, 435, 436, 437, 438, 439, 440, 441, 442, 443, 444, 445, 446, 447, 448, 449, 450, 451] (by decide +kernel) (by decide +kernel)
set_option maxRecDepth 20000 in
theorem gL_refusesAny_X7_count : GoodIn wsL_refusesAny (wsV RL 11 RX7 yX7_count wsX7_count) := goodIn_app (goodIn_of _ (by decide +kernel)) ggL_refusesAny_X7_count
set_option maxRecDepth 20000 in
theorem ggL_refusesAny_X7_set : GoodIn wsL_refusesAny wsX7_set := goodIn_r _ [111, 9, 10, 17, 13, 14, 112, 113, 114, 115, 116, 117, 118, 119, 120, 121, 122, 123, 124, 125, 42, 126, 127, 128, 129, 130, 131, 49, 132, 48, 133, 134, 435, 436, 437, 438, 439, 440, 441, 442, 443, 444, 445, 446, 450, 451] (by decide +kernel) (by decide +kernel)
set_option maxRecDepth 20000 in
theorem gL_refusesAny_X7_set : GoodIn wsL_refusesAny (wsV RL 24 RX7 yX7_set wsX7_set) := goodIn_app (goodIn_of _ (by decide +kernel)) ggL_refusesAny_X7_set
set_option maxRecDepth 20000 in
theorem ggL_refusesAny_X7_point : GoodIn wsL_refusesAny wsX7_point := goodIn_r _ [138, 9, 10, 17, 139, 93, 73, 94, 140, 96, 97, 141, 142, 143, 42, 144, 132, 145, 146, 147, 148, 149, 150, 151, 152, 127, 153, 154, 155, 156, 112, 113, 114, 115, 116, 117, 118, 119, 120, 121, 122, 123, 124, 125, 126, 128, 129, 130, 131, 49, 48, 133, 134, 157, 158, 159, 22, 160, 31, 161, 162, 163, 164, 165, 166, 167, 168, 38, 106, 99, 100, 19, 20, 21, 23, 24, 25, 26, 27, 28, 29, 30, 32, 33, 34, 35, 36, 37, 39, 40, 41, 43, 44, 45, 46, 47, 435, 436, 437, 438, 439, 440, 441, 442, 443, 444, 445, 446, 450, 451] (by decide +kernel) (by decide +kernel)
set_option maxRecDepth 20000 in
theorem gL_refusesAny_X7_point : GoodIn wsL_refusesAny (wsV RL 29 RX7 yX7_point wsX7_point) := goodIn_app (goodIn_of _ (by decide +kernel)) ggL_refusesAny_X7_point
set_option maxRecDepth 20000 in
theorem ggL_refusesAny_X7_take : GoodIn wsL_refusesAny wsX7_take := goodIn_r _ [172, 9, 10, 17, 173, 154, 155, 42, 156, 132, 112, 113, 114, 115, 116, 117, 118, 119, 120, 121, 122, 123, 124, 125, 126, 127, 128, 129, 130, 131, 49, 48, 133, 134, 174, 175, 176, 22, 177, 31, 178, 150, 151, 152, 153, 165, 166, 167, 168, 38, 106, 99, 73, 100, 179, 180, 181, 182, 19, 20, 21, 23, 24, 25, 26, 27, 28, 29, 30, 32, 33, 34, 35, 36, 37, 39, 40, 41, 43, 44, 45, 46, 47, 435, 436, 437, 438, 439, 440, 441, 442, 443, 444, 445, 446, 450, 451] (by decide +kernel) (by decide +kernel)
set_option maxRecDepth 20000 in
theorem gL_refusesAny_X7_take : GoodIn wsL_refusesAny (wsV RL 32 RX7 yX7_take wsX7_take) := goodIn_app (goodIn_of _ (by decide +kernel)) ggL_refusesAny_X7_take
set_option maxRecDepth 20000 in
theorem ggL_refusesAny_X7_move : GoodIn wsL_refusesAny wsX7_move := goodIn_r _ [186, 9, 10, 17, 173, 154, 155, 42, 156, 132, 139, 93, 73, 94, 140, 96, 97, 187, 146, 147, 148, 149, 150, 151, 152, 127, 153, 112, 113, 114, 115, 116, 117, 118, 119, 120, 121, 122, 123, 124, 125, 126, 128, 129, 130, 131, 49, 48, 133, 134, 188, 189, 190, 22, 191, 31, 178, 165, 166, 167, 168, 38, 106, 99, 100, 192, 193, 194, 195, 19, 20, 21, 23, 24, 25, 26, 27, 28, 29, 30, 32, 33, 34, 35, 36, 37, 39, 40, 41, 43, 44, 45, 46, 47, 435, 436, 437, 438, 439, 440, 441, 442, 443, 444, 445, 446, 450, 451] (by decide +kernel) (by decide +kernel)
set_option maxRecDepth 20000 in
theorem gL_refusesAny_X7_move : GoodIn wsL_refusesAny (wsV RL 35 RX7 yX7_move wsX7_move) := goodIn_app (goodIn_of _ (by decide +kernel)) ggL_refusesAny_X7_move
set_option maxRecDepth 20000 in
theorem ggL_refusesAny_X7_split : GoodIn wsL_refusesAny wsX7_split := goodIn_r _ [199, 9, 10, 12, 17, 200, 201, 73, 202, 203, 40, 41, 42, 43, 44, 45, 46, 47, 48, 49, 112, 113, 114, 115, 116, 117, 118, 119, 120, 121, 122, 123, 124, 125, 126, 127, 128, 129, 130, 131, 132, 133, 134, 204, 205, 206, 207, 208, 209, 210, 211, 19, 20, 21, 22, 23, 24, 25, 26, 27, 28, 29, 30, 31, 32, 33, 34, 35, 36, 37, 38, 39, 435, 436, 437, 438, 439, 440, 441, 442, 443, 444, 445, 446, 450, 451] (by decide +kernel) (by decide +kernel)
set_option maxRecDepth 20000 in
theorem gL_refusesAny_X7_split : GoodIn wsL_refusesAny (wsV RL 39 RX7 yX7_split wsX7_split) := goodIn_app (goodIn_of _ (by decide +kernel)) ggL_refusesAny_X7_split
set_option maxRecDepth 20000 in
theorem ggL_refusesAny_X7_putAll : GoodIn wsL_refusesAny wsX7_putAll := goodIn_r _ [215, 15, 17, 9, 10, 216, 217, 218, 219, 220, 221, 222, 223, 224, 225, 226, 227, 228, 229, 230, 231, 232, 112, 113, 114, 115, 116, 117, 118, 119, 120, 121, 122, 123, 124, 125, 42, 126, 127, 128, 129, 130, 131, 49, 132, 48, 133, 134, 233, 234, 235, 236, 237, 238, 96, 73, 97, 239, 240, 241, 242, 141, 142, 143, 144, 145, 146, 147, 148, 149, 150, 151, 152, 153, 154, 155, 156, 157, 158, 159, 22, 160, 31, 161, 162, 163, 164, 165, 166, 167, 168, 38, 106, 99, 100, 243, 244, 245, 246, 435, 436, 437, 438, 439, 440, 447, 448, 449, 450, 451, 441, 442, 443, 444, 445, 446] (by decide +kernel) (by decide +kernel)
set_option maxRecDepth 20000 in
theorem gL_refusesAny_X7_putAll : GoodIn wsL_refusesAny (wsV RL 43 RX7 yX7_putAll wsX7_putAll) := goodIn_app (goodIn_of _ (by decide +kernel)) ggL_refusesAny_X7_putAll
set_option maxRecDepth 20000 in
theorem ggL_refusesAny_X7_of : GoodIn wsL_refusesAny wsX7_of := goodIn_r _ [250, 9, 10, 173, 154, 155, 42, 156, 132, 251, 150, 151, 152, 127, 153, 252, 81, 73, 82, 83, 84, 85, 86, 87, 88, 253, 90, 91, 254, 255, 256, 22, 257, 102, 103, 104, 105, 106, 99, 100, 27, 28, 29, 30, 31, 32, 33, 34, 35, 36, 37, 38, 39, 40, 41, 43, 44, 45, 46, 47, 48, 49, 258, 259, 260, 261, 149, 435, 436, 437, 438, 439, 440, 441, 442, 443, 444, 445, 446] (by decide +kernel) (by decide +kernel)
set_option maxRecDepth 20000 in
theorem gL_refusesAny_X7_of : GoodIn wsL_refusesAny (wsV RL 17 RX7 yX7_of wsX7_of) := goodIn_app (goodIn_of _ (by decide +kernel)) ggL_refusesAny_X7_of
set_option maxRecDepth 20000 in
theorem ggL_refusesAny_X7_leafAt : GoodIn wsL_refusesAny wsX7_leafAt := goodIn_r _ [265, 9, 139, 93, 73, 94, 140, 96, 97, 254, 255, 256, 22, 257, 102, 103, 104, 105, 106, 99, 100, 27, 28, 29, 30, 31, 32, 33, 34, 35, 36, 37, 38, 39, 40, 41, 42, 43, 44, 45, 46, 47, 48, 49, 435, 436, 437, 438, 439, 440, 441, 442, 443, 444, 445, 446] (by decide +kernel) (by decide +kernel)
set_option maxRecDepth 20000 in
theorem gL_refusesAny_X7_leafAt : GoodIn wsL_refusesAny (wsV RL 47 RX7 yX7_leafAt wsX7_leafAt) := goodIn_app (goodIn_of _ (by decide +kernel)) ggL_refusesAny_X7_leafAt
set_option maxRecDepth 20000 in
theorem ggL_refusesAny_X7_tile : GoodIn wsL_refusesAny wsX7_tile := goodIn_r _ [269, 9, 10, 200, 201, 73, 202, 252, 81, 82, 83, 84, 85, 86, 87, 88, 253, 90, 91, 270, 78, 79, 271, 35, 36, 22, 37, 38, 272, 273, 274, 275, 276, 277, 278, 279, 106, 99, 100, 27, 28, 29, 30, 31, 32, 33, 34, 39, 40, 41, 42, 43, 44, 45, 46, 47, 48, 49, 203, 280, 25, 26, 24, 435, 436, 437, 438, 439, 440, 441, 442, 443, 444, 445, 446] (by decide +kernel) (by decide +kernel)
set_option maxRecDepth 20000 in
theorem gL_refusesAny_X7_tile : GoodIn wsL_refusesAny (wsV RL 21 RX7 yX7_tile wsX7_tile) := goodIn_app (goodIn_of _ (by decide +kernel)) ggL_refusesAny_X7_tile
set_option maxRecDepth 20000 in
theorem ggL_refusesAny_X7_letter : GoodIn wsL_refusesAny wsX7_letter := goodIn_r _ [284, 200, 201, 73, 202, 285, 99, 100] (by decide +kernel) (by decide +kernel)
set_option maxRecDepth 20000 in
theorem gL_refusesAny_X7_letter : GoodIn wsL_refusesAny (wsV RL 50 RX7 yX7_letter wsX7_letter) := goodIn_app (goodIn_of _ (by decide +kernel)) ggL_refusesAny_X7_letter
set_option maxRecDepth 20000 in
theorem ggL_refusesAny_X7_beside : GoodIn wsL_refusesAny wsX7_beside := goodIn_r _ [289, 9, 200, 201, 73, 202, 290, 72, 74, 75, 76, 77, 78, 79, 80, 81, 82, 83, 84, 85, 86, 87, 88, 89, 90, 91, 92, 93, 94, 95, 96, 97, 98, 99, 100, 291, 292, 293, 22, 294, 295, 296, 59, 297, 101, 102, 103, 104, 105, 106, 27, 28, 29, 30, 31, 32, 33, 34, 35, 36, 37, 38, 39, 40, 41, 42, 43, 44, 45, 46, 47, 48, 49, 435, 436, 437, 438, 439, 440, 441, 442, 443, 444, 445, 446] (by decide +kernel) (by decide +kernel)
set_option maxRecDepth 20000 in
theorem gL_refusesAny_X7_beside : GoodIn wsL_refusesAny (wsV RL 53 RX7 yX7_beside wsX7_beside) := goodIn_app (goodIn_of _ (by decide +kernel)) ggL_refusesAny_X7_beside
set_option maxRecDepth 20000 in
theorem ggL_refusesAny_X7_neighbours : GoodIn wsL_refusesAny wsX7_neighbours := goodIn_r _ [301, 9, 200, 201, 73, 202, 272, 273, 274, 22, 275, 276, 277, 278, 279, 106, 99, 100, 27, 28, 29, 30, 31, 32, 33, 34, 35, 36, 37, 38, 39, 40, 41, 42, 43, 44, 45, 46, 47, 48, 49, 302, 303, 304, 305, 71, 72, 74, 75, 76, 77, 78, 79, 80, 81, 82, 83, 84, 85, 86, 87, 88, 89, 90, 91, 92, 93, 94, 95, 96, 97, 98, 306, 307, 308, 309, 310, 435, 436, 437, 438, 439, 440, 441, 442, 443, 444, 445, 446] (by decide +kernel) (by decide +kernel)
set_option maxRecDepth 20000 in
theorem gL_refusesAny_X7_neighbours : GoodIn wsL_refusesAny (wsV RL 56 RX7 yX7_neighbours wsX7_neighbours) := goodIn_app (goodIn_of _ (by decide +kernel)) ggL_refusesAny_X7_neighbours
set_option maxRecDepth 20000 in
theorem ggL_refusesAny_X7_window : GoodIn wsL_refusesAny wsX7_window := goodIn_r _ [314, 315, 316, 317, 9, 10, 139, 93, 73, 94, 318, 319, 320, 321, 322, 323, 324, 325, 326, 327, 328, 329, 330, 42, 331, 132, 149, 150, 151, 152, 127, 153, 154, 155, 156, 332, 333, 334, 335, 336, 81, 82, 83, 84, 85, 86, 87, 88, 337, 90, 91, 338, 78, 79, 339, 22, 340, 341, 27, 28, 29, 30, 31, 32, 33, 34, 35, 36, 37, 38, 39, 40, 41, 43, 44, 45, 46, 47, 48, 49, 342, 343, 344, 345, 346, 347, 348, 349, 350, 351, 352, 353, 354, 96, 97, 102, 103, 104, 105, 106, 99, 100, 452, 453, 454, 455, 435, 436, 437, 438, 439, 440, 441, 442, 443, 444, 445, 446] (by decide +kernel) (by decide +kernel)
set_option maxRecDepth 20000 in
theorem gL_refusesAny_X7_window : GoodIn wsL_refusesAny (wsV RL 59 RX7 yX7_window wsX7_window) := goodIn_app (goodIn_of _ (by decide +kernel)) ggL_refusesAny_X7_window
set_option maxRecDepth 20000 in
theorem ggL_refusesAny_X7_nearest : GoodIn wsL_refusesAny wsX7_nearest := goodIn_r _ [358, 9, 10, 11, 139, 93, 73, 94, 251, 150, 151, 42, 152, 127, 153, 154, 155, 156, 132, 359, 360, 361, 80, 81, 82, 83, 84, 85, 86, 87, 88, 89, 90, 91, 435, 436, 437, 438, 439, 440, 441, 442, 443, 444, 445, 446] (by decide +kernel) (by decide +kernel)
set_option maxRecDepth 20000 in
theorem gL_refusesAny_X7_nearest : GoodIn wsL_refusesAny (wsV RL 63 RX7 yX7_nearest wsX7_nearest) := goodIn_app (goodIn_of _ (by decide +kernel)) ggL_refusesAny_X7_nearest
set_option maxRecDepth 20000 in
theorem ggL_refusesAny_X7_ifPut : GoodIn wsL_refusesAny wsX7_ifPut := goodIn_r _ [365, 9, 10, 139, 93, 73, 94, 140, 96, 97, 141, 142, 143, 42, 144, 132, 145, 146, 147, 148, 149, 150, 151, 152, 127, 153, 154, 155, 156, 366, 367, 368, 22, 369, 165, 166, 167, 168, 38, 106, 99, 100, 54, 20, 21, 23, 24, 25, 26, 27, 28, 29, 30, 31, 32, 33, 34, 35, 36, 37, 39, 40, 41, 43, 44, 45, 46, 47, 48, 49, 370, 371, 372, 373, 102, 103, 104, 105, 435, 436, 437, 438, 439, 440, 441, 442, 443, 444, 445, 446] (by decide +kernel) (by decide +kernel)
set_option maxRecDepth 20000 in
theorem gL_refusesAny_X7_ifPut : GoodIn wsL_refusesAny (wsV RL 66 RX7 yX7_ifPut wsX7_ifPut) := goodIn_app (goodIn_of _ (by decide +kernel)) ggL_refusesAny_X7_ifPut
set_option maxRecDepth 20000 in
theorem ggL_refusesAny_X7_leastFull : GoodIn wsL_refusesAny wsX7_leastFull := goodIn_r _ [377, 9, 378, 379, 380, 22, 381, 31, 33, 54, 20, 21, 23, 24, 25, 26, 27, 28, 29, 30, 32, 34, 35, 36, 37, 38, 39, 40, 41, 42, 43, 44, 45, 46, 47, 48, 49, 435, 436, 437, 438, 439, 440, 441, 442, 443, 444, 445, 446] (by decide +kernel) (by decide +kernel)
set_option maxRecDepth 20000 in
theorem gL_refusesAny_X7_leastFull : GoodIn wsL_refusesAny (wsV RL 69 RX7 yX7_leastFull wsX7_leastFull) := goodIn_app (goodIn_of _ (by decide +kernel)) ggL_refusesAny_X7_leastFull
set_option maxRecDepth 20000 in
theorem ggL_refusesAny_X7_save : GoodIn wsL_refusesAny wsX7_save := goodIn_r _ [385, 386, 9, 10, 11, 387, 388, 389, 390, 391, 392, 393, 394, 395, 396, 397, 398, 124, 125, 42, 126, 127, 128, 129, 130, 131, 49, 132, 48, 133, 134, 435, 436, 437, 438, 439, 440, 441, 442, 443, 444, 445, 446, 456, 457] (by decide +kernel) (by decide +kernel)
set_option maxRecDepth 20000 in
theorem gL_refusesAny_X7_save : GoodIn wsL_refusesAny (wsV RL 72 RX7 yX7_save wsX7_save) := goodIn_app (goodIn_of _ (by decide +kernel)) ggL_refusesAny_X7_save
set_option maxRecDepth 20000 in
theorem ggL_refusesAny_X7_restore : GoodIn wsL_refusesAny wsX7_restore := goodIn_r _ [402, 386, 17, 9, 10, 11, 387, 388, 389, 390, 403, 404, 405, 406, 396, 397, 112, 113, 114, 115, 116, 117, 118, 119, 120, 121, 122, 123, 124, 125, 42, 126, 127, 128, 129, 130, 131, 49, 132, 48, 133, 134, 407, 408, 409, 410, 395, 411, 412, 413, 22, 414, 31, 415, 416, 417, 418, 419, 178, 150, 151, 152, 153, 154, 155, 156, 165, 166, 167, 168, 38, 106, 99, 73, 100, 420, 435, 436, 437, 438, 439, 440, 441, 442, 443, 444, 445, 446, 456, 457, 450, 451] (by decide +kernel) (by decide +kernel)
set_option maxRecDepth 20000 in
theorem gL_refusesAny_X7_restore : GoodIn wsL_refusesAny (wsV RL 75 RX7 yX7_restore wsX7_restore) := goodIn_app (goodIn_of _ (by decide +kernel)) ggL_refusesAny_X7_restore
set_option maxRecDepth 20000 in
theorem ggL_refusesAny_X7_put : GoodIn wsL_refusesAny wsX7_put := goodIn_r _ [424, 15, 16, 425, 426, 219, 427, 428, 429, 430, 431, 432, 433, 434, 221, 226, 435, 436, 437, 438, 447, 448, 449] (by decide +kernel) (by decide +kernel)
set_option maxRecDepth 20000 in
theorem gL_refusesAny_X7_put : GoodIn wsL_refusesAny (wsV RL 80 RX7 yX7_put wsX7_put) := goodIn_app (goodIn_of _ (by decide +kernel)) ggL_refusesAny_X7_put
theorem dL_refusesAny_0 : decode cL_refusesAny 0 = .ok (.iload_n 1, 1) := by decide +kernel
theorem dL_refusesAny_1 : decode cL_refusesAny 1 = .ok (.ifCond .ne 7, 3) := by decide +kernel
theorem dL_refusesAny_4 : decode cL_refusesAny 4 = .ok (.iconst (-1), 1) := by decide +kernel
theorem dL_refusesAny_5 : decode cL_refusesAny 5 = .ok (.goto 5, 3) := by decide +kernel
theorem dL_refusesAny_8 : decode cL_refusesAny 8 = .ok (.bipush 64, 2) := by decide +kernel
theorem dL_refusesAny_10 : decode cL_refusesAny 10 = .ok (.istore_n 2, 1) := by decide +kernel
theorem dL_refusesAny_11 : decode cL_refusesAny 11 = .ok (.iload_n 1, 1) := by decide +kernel
theorem dL_refusesAny_12 : decode cL_refusesAny 12 = .ok (.ifCond .ne 7, 3) := by decide +kernel
theorem dL_refusesAny_15 : decode cL_refusesAny 15 = .ok (.iconst (-1), 1) := by decide +kernel
theorem dL_refusesAny_16 : decode cL_refusesAny 16 = .ok (.goto 8, 3) := by decide +kernel
theorem dL_refusesAny_19 : decode cL_refusesAny 19 = .ok (.aload_n 0, 1) := by decide +kernel
theorem dL_refusesAny_20 : decode cL_refusesAny 20 = .ok (.iconst 0, 1) := by decide +kernel
theorem dL_refusesAny_21 : decode cL_refusesAny 21 = .ok (.invokevirtual 11, 3) := by decide +kernel
theorem dL_refusesAny_24 : decode cL_refusesAny 24 = .ok (.istore_n 3, 1) := by decide +kernel
theorem dL_refusesAny_25 : decode cL_refusesAny 25 = .ok (.iload_n 1, 1) := by decide +kernel
theorem dL_refusesAny_26 : decode cL_refusesAny 26 = .ok (.ifCond .ne 7, 3) := by decide +kernel
theorem dL_refusesAny_29 : decode cL_refusesAny 29 = .ok (.iconst 0, 1) := by decide +kernel
theorem dL_refusesAny_30 : decode cL_refusesAny 30 = .ok (.goto 6, 3) := by decide +kernel
theorem dL_refusesAny_33 : decode cL_refusesAny 33 = .ok (.sipush 8192, 3) := by decide +kernel
theorem dL_refusesAny_36 : decode cL_refusesAny 36 = .ok (.istore 4, 2) := by decide +kernel
theorem dL_refusesAny_38 : decode cL_refusesAny 38 = .ok (.aload_n 0, 1) := by decide +kernel
theorem dL_refusesAny_39 : decode cL_refusesAny 39 = .ok (.iload_n 1, 1) := by decide +kernel
theorem dL_refusesAny_40 : decode cL_refusesAny 40 = .ok (.ifCond .ne 7, 3) := by decide +kernel
theorem dL_refusesAny_43 : decode cL_refusesAny 43 = .ok (.iconst (-1), 1) := by decide +kernel
theorem dL_refusesAny_44 : decode cL_refusesAny 44 = .ok (.goto 4, 3) := by decide +kernel
theorem dL_refusesAny_47 : decode cL_refusesAny 47 = .ok (.iconst 2, 1) := by decide +kernel
theorem dL_refusesAny_48 : decode cL_refusesAny 48 = .ok (.iconst 1, 1) := by decide +kernel
theorem dL_refusesAny_49 : decode cL_refusesAny 49 = .ok (.invokevirtual 24, 3) := by decide +kernel
theorem dL_refusesAny_52 : decode cL_refusesAny 52 = .ok (.bipush (-2), 2) := by decide +kernel
theorem dL_refusesAny_54 : decode cL_refusesAny 54 = .ok (.if_icmp .ne 199, 3) := by decide +kernel
theorem dL_refusesAny_57 : decode cL_refusesAny 57 = .ok (.aload_n 0, 1) := by decide +kernel
theorem dL_refusesAny_58 : decode cL_refusesAny 58 = .ok (.iconst 0, 1) := by decide +kernel
theorem dL_refusesAny_59 : decode cL_refusesAny 59 = .ok (.iload_n 1, 1) := by decide +kernel
theorem dL_refusesAny_60 : decode cL_refusesAny 60 = .ok (.ifCond .ne 7, 3) := by decide +kernel
theorem dL_refusesAny_63 : decode cL_refusesAny 63 = .ok (.iconst 0, 1) := by decide +kernel
theorem dL_refusesAny_64 : decode cL_refusesAny 64 = .ok (.goto 5, 3) := by decide +kernel
theorem dL_refusesAny_67 : decode cL_refusesAny 67 = .ok (.bipush 9, 2) := by decide +kernel
theorem dL_refusesAny_69 : decode cL_refusesAny 69 = .ok (.invokevirtual 24, 3) := by decide +kernel
theorem dL_refusesAny_72 : decode cL_refusesAny 72 = .ok (.bipush (-2), 2) := by decide +kernel
theorem dL_refusesAny_74 : decode cL_refusesAny 74 = .ok (.if_icmp .ne 179, 3) := by decide +kernel
theorem dL_refusesAny_77 : decode cL_refusesAny 77 = .ok (.aload_n 0, 1) := by decide +kernel
theorem dL_refusesAny_78 : decode cL_refusesAny 78 = .ok (.iconst 1, 1) := by decide +kernel
theorem dL_refusesAny_79 : decode cL_refusesAny 79 = .ok (.iload_n 1, 1) := by decide +kernel
theorem dL_refusesAny_80 : decode cL_refusesAny 80 = .ok (.ifCond .ne 7, 3) := by decide +kernel
theorem dL_refusesAny_83 : decode cL_refusesAny 83 = .ok (.iconst 0, 1) := by decide +kernel
theorem dL_refusesAny_84 : decode cL_refusesAny 84 = .ok (.goto 5, 3) := by decide +kernel
theorem dL_refusesAny_87 : decode cL_refusesAny 87 = .ok (.bipush 7, 2) := by decide +kernel
theorem dL_refusesAny_89 : decode cL_refusesAny 89 = .ok (.invokevirtual 24, 3) := by decide +kernel
theorem dL_refusesAny_92 : decode cL_refusesAny 92 = .ok (.bipush (-2), 2) := by decide +kernel
theorem dL_refusesAny_94 : decode cL_refusesAny 94 = .ok (.if_icmp .ne 159, 3) := by decide +kernel
theorem dL_refusesAny_97 : decode cL_refusesAny 97 = .ok (.aload_n 0, 1) := by decide +kernel
theorem dL_refusesAny_98 : decode cL_refusesAny 98 = .ok (.iload_n 2, 1) := by decide +kernel
theorem dL_refusesAny_99 : decode cL_refusesAny 99 = .ok (.iconst 0, 1) := by decide +kernel
theorem dL_refusesAny_100 : decode cL_refusesAny 100 = .ok (.invokevirtual 29, 3) := by decide +kernel
theorem dL_refusesAny_103 : decode cL_refusesAny 103 = .ok (.iconst (-1), 1) := by decide +kernel
theorem dL_refusesAny_104 : decode cL_refusesAny 104 = .ok (.if_icmp .ne 149, 3) := by decide +kernel
theorem dL_refusesAny_107 : decode cL_refusesAny 107 = .ok (.aload_n 0, 1) := by decide +kernel
theorem dL_refusesAny_108 : decode cL_refusesAny 108 = .ok (.iconst 0, 1) := by decide +kernel
theorem dL_refusesAny_109 : decode cL_refusesAny 109 = .ok (.iload_n 2, 1) := by decide +kernel
theorem dL_refusesAny_110 : decode cL_refusesAny 110 = .ok (.invokevirtual 29, 3) := by decide +kernel
theorem dL_refusesAny_113 : decode cL_refusesAny 113 = .ok (.iconst (-1), 1) := by decide +kernel
theorem dL_refusesAny_114 : decode cL_refusesAny 114 = .ok (.if_icmp .ne 139, 3) := by decide +kernel
theorem dL_refusesAny_117 : decode cL_refusesAny 117 = .ok (.aload_n 0, 1) := by decide +kernel
theorem dL_refusesAny_118 : decode cL_refusesAny 118 = .ok (.iload_n 3, 1) := by decide +kernel
theorem dL_refusesAny_119 : decode cL_refusesAny 119 = .ok (.invokevirtual 32, 3) := by decide +kernel
theorem dL_refusesAny_122 : decode cL_refusesAny 122 = .ok (.iconst (-1), 1) := by decide +kernel
theorem dL_refusesAny_123 : decode cL_refusesAny 123 = .ok (.if_icmp .ne 130, 3) := by decide +kernel
theorem dL_refusesAny_126 : decode cL_refusesAny 126 = .ok (.aload_n 0, 1) := by decide +kernel
theorem dL_refusesAny_127 : decode cL_refusesAny 127 = .ok (.iload_n 3, 1) := by decide +kernel
theorem dL_refusesAny_128 : decode cL_refusesAny 128 = .ok (.iconst 0, 1) := by decide +kernel
theorem dL_refusesAny_129 : decode cL_refusesAny 129 = .ok (.iconst 0, 1) := by decide +kernel
theorem dL_refusesAny_130 : decode cL_refusesAny 130 = .ok (.invokevirtual 35, 3) := by decide +kernel
theorem dL_refusesAny_133 : decode cL_refusesAny 133 = .ok (.iconst (-1), 1) := by decide +kernel
theorem dL_refusesAny_134 : decode cL_refusesAny 134 = .ok (.if_icmp .ne 119, 3) := by decide +kernel
theorem dL_refusesAny_137 : decode cL_refusesAny 137 = .ok (.aload_n 0, 1) := by decide +kernel
theorem dL_refusesAny_138 : decode cL_refusesAny 138 = .ok (.iconst 0, 1) := by decide +kernel
theorem dL_refusesAny_139 : decode cL_refusesAny 139 = .ok (.iload_n 2, 1) := by decide +kernel
theorem dL_refusesAny_140 : decode cL_refusesAny 140 = .ok (.iconst 0, 1) := by decide +kernel
theorem dL_refusesAny_141 : decode cL_refusesAny 141 = .ok (.invokevirtual 35, 3) := by decide +kernel
theorem dL_refusesAny_144 : decode cL_refusesAny 144 = .ok (.iconst (-1), 1) := by decide +kernel
theorem dL_refusesAny_145 : decode cL_refusesAny 145 = .ok (.if_icmp .ne 108, 3) := by decide +kernel
theorem dL_refusesAny_148 : decode cL_refusesAny 148 = .ok (.aload_n 0, 1) := by decide +kernel
theorem dL_refusesAny_149 : decode cL_refusesAny 149 = .ok (.iconst 0, 1) := by decide +kernel
theorem dL_refusesAny_150 : decode cL_refusesAny 150 = .ok (.iconst 0, 1) := by decide +kernel
theorem dL_refusesAny_151 : decode cL_refusesAny 151 = .ok (.iload_n 2, 1) := by decide +kernel
theorem dL_refusesAny_152 : decode cL_refusesAny 152 = .ok (.invokevirtual 35, 3) := by decide +kernel
theorem dL_refusesAny_155 : decode cL_refusesAny 155 = .ok (.iconst (-1), 1) := by decide +kernel
theorem dL_refusesAny_156 : decode cL_refusesAny 156 = .ok (.if_icmp .ne 97, 3) := by decide +kernel
theorem dL_refusesAny_159 : decode cL_refusesAny 159 = .ok (.aload_n 0, 1) := by decide +kernel
theorem dL_refusesAny_160 : decode cL_refusesAny 160 = .ok (.iload 4, 2) := by decide +kernel
theorem dL_refusesAny_162 : decode cL_refusesAny 162 = .ok (.iconst 1, 1) := by decide +kernel
theorem dL_refusesAny_163 : decode cL_refusesAny 163 = .ok (.invokevirtual 39, 3) := by decide +kernel
theorem dL_refusesAny_166 : decode cL_refusesAny 166 = .ok (.iconst (-1), 1) := by decide +kernel
theorem dL_refusesAny_167 : decode cL_refusesAny 167 = .ok (.if_icmp .ne 86, 3) := by decide +kernel
theorem dL_refusesAny_170 : decode cL_refusesAny 170 = .ok (.aload_n 0, 1) := by decide +kernel
theorem dL_refusesAny_171 : decode cL_refusesAny 171 = .ok (.iload_n 1, 1) := by decide +kernel
theorem dL_refusesAny_172 : decode cL_refusesAny 172 = .ok (.ifCond .ne 7, 3) := by decide +kernel
theorem dL_refusesAny_175 : decode cL_refusesAny 175 = .ok (.iconst 2, 1) := by decide +kernel
theorem dL_refusesAny_176 : decode cL_refusesAny 176 = .ok (.goto 5, 3) := by decide +kernel
theorem dL_refusesAny_179 : decode cL_refusesAny 179 = .ok (.bipush 15, 2) := by decide +kernel
theorem dL_refusesAny_181 : decode cL_refusesAny 181 = .ok (.iconst 1, 1) := by decide +kernel
theorem dL_refusesAny_182 : decode cL_refusesAny 182 = .ok (.invokevirtual 39, 3) := by decide +kernel
theorem dL_refusesAny_185 : decode cL_refusesAny 185 = .ok (.iconst (-1), 1) := by decide +kernel
theorem dL_refusesAny_186 : decode cL_refusesAny 186 = .ok (.if_icmp .ne 67, 3) := by decide +kernel
theorem dL_refusesAny_189 : decode cL_refusesAny 189 = .ok (.aload_n 0, 1) := by decide +kernel
theorem dL_refusesAny_190 : decode cL_refusesAny 190 = .ok (.iload_n 1, 1) := by decide +kernel
theorem dL_refusesAny_191 : decode cL_refusesAny 191 = .ok (.ifCond .ne 9, 3) := by decide +kernel
theorem dL_refusesAny_194 : decode cL_refusesAny 194 = .ok (.sipush 4096, 3) := by decide +kernel
theorem dL_refusesAny_197 : decode cL_refusesAny 197 = .ok (.goto 6, 3) := by decide +kernel
theorem dL_refusesAny_200 : decode cL_refusesAny 200 = .ok (.sipush 8191, 3) := by decide +kernel
theorem dL_refusesAny_203 : decode cL_refusesAny 203 = .ok (.iconst 1, 1) := by decide +kernel
theorem dL_refusesAny_204 : decode cL_refusesAny 204 = .ok (.invokevirtual 39, 3) := by decide +kernel
theorem dL_refusesAny_207 : decode cL_refusesAny 207 = .ok (.iconst (-1), 1) := by decide +kernel
theorem dL_refusesAny_208 : decode cL_refusesAny 208 = .ok (.if_icmp .ne 45, 3) := by decide +kernel
theorem dL_refusesAny_211 : decode cL_refusesAny 211 = .ok (.aload_n 0, 1) := by decide +kernel
theorem dL_refusesAny_212 : decode cL_refusesAny 212 = .ok (.iconst (-1), 1) := by decide +kernel
theorem dL_refusesAny_213 : decode cL_refusesAny 213 = .ok (.iconst 0, 1) := by decide +kernel
theorem dL_refusesAny_214 : decode cL_refusesAny 214 = .ok (.invokevirtual 39, 3) := by decide +kernel
theorem dL_refusesAny_217 : decode cL_refusesAny 217 = .ok (.iconst (-1), 1) := by decide +kernel
theorem dL_refusesAny_218 : decode cL_refusesAny 218 = .ok (.if_icmp .ne 35, 3) := by decide +kernel
theorem dL_refusesAny_221 : decode cL_refusesAny 221 = .ok (.aload_n 0, 1) := by decide +kernel
theorem dL_refusesAny_222 : decode cL_refusesAny 222 = .ok (.iload_n 1, 1) := by decide +kernel
theorem dL_refusesAny_223 : decode cL_refusesAny 223 = .ok (.ifCond .ne 9, 3) := by decide +kernel
theorem dL_refusesAny_226 : decode cL_refusesAny 226 = .ok (.sipush 2000, 3) := by decide +kernel
theorem dL_refusesAny_229 : decode cL_refusesAny 229 = .ok (.goto 6, 3) := by decide +kernel
theorem dL_refusesAny_232 : decode cL_refusesAny 232 = .ok (.sipush 2047, 3) := by decide +kernel
theorem dL_refusesAny_235 : decode cL_refusesAny 235 = .ok (.iconst 0, 1) := by decide +kernel
theorem dL_refusesAny_236 : decode cL_refusesAny 236 = .ok (.invokevirtual 39, 3) := by decide +kernel
theorem dL_refusesAny_239 : decode cL_refusesAny 239 = .ok (.bipush (-5), 2) := by decide +kernel
theorem dL_refusesAny_241 : decode cL_refusesAny 241 = .ok (.if_icmp .ne 12, 3) := by decide +kernel
theorem dL_refusesAny_244 : decode cL_refusesAny 244 = .ok (.aload_n 0, 1) := by decide +kernel
theorem dL_refusesAny_245 : decode cL_refusesAny 245 = .ok (.invokevirtual 43, 3) := by decide +kernel
theorem dL_refusesAny_248 : decode cL_refusesAny 248 = .ok (.bipush (-3), 2) := by decide +kernel
theorem dL_refusesAny_250 : decode cL_refusesAny 250 = .ok (.if_icmp .eq 5, 3) := by decide +kernel
theorem dL_refusesAny_253 : decode cL_refusesAny 253 = .ok (.iconst 0, 1) := by decide +kernel
theorem dL_refusesAny_254 : decode cL_refusesAny 254 = .ok (.ireturn, 1) := by decide +kernel
theorem dL_refusesAny_255 : decode cL_refusesAny 255 = .ok (.aload_n 0, 1) := by decide +kernel
theorem dL_refusesAny_256 : decode cL_refusesAny 256 = .ok (.iload_n 3, 1) := by decide +kernel
theorem dL_refusesAny_257 : decode cL_refusesAny 257 = .ok (.bipush 9, 2) := by decide +kernel
theorem dL_refusesAny_259 : decode cL_refusesAny 259 = .ok (.invokevirtual 17, 3) := by decide +kernel
theorem dL_refusesAny_262 : decode cL_refusesAny 262 = .ok (.iconst (-1), 1) := by decide +kernel
theorem dL_refusesAny_263 : decode cL_refusesAny 263 = .ok (.if_icmp .ne 217, 3) := by decide +kernel
theorem dL_refusesAny_266 : decode cL_refusesAny 266 = .ok (.aload_n 0, 1) := by decide +kernel
theorem dL_refusesAny_267 : decode cL_refusesAny 267 = .ok (.iconst 0, 1) := by decide +kernel
theorem dL_refusesAny_268 : decode cL_refusesAny 268 = .ok (.iload_n 1, 1) := by decide +kernel
theorem dL_refusesAny_269 : decode cL_refusesAny 269 = .ok (.ifCond .ne 7, 3) := by decide +kernel
theorem dL_refusesAny_272 : decode cL_refusesAny 272 = .ok (.iconst (-1), 1) := by decide +kernel
theorem dL_refusesAny_273 : decode cL_refusesAny 273 = .ok (.goto 4, 3) := by decide +kernel
theorem dL_refusesAny_276 : decode cL_refusesAny 276 = .ok (.iconst 4, 1) := by decide +kernel
theorem dL_refusesAny_277 : decode cL_refusesAny 277 = .ok (.invokevirtual 17, 3) := by decide +kernel
theorem dL_refusesAny_280 : decode cL_refusesAny 280 = .ok (.bipush (-2), 2) := by decide +kernel
theorem dL_refusesAny_282 : decode cL_refusesAny 282 = .ok (.if_icmp .ne 198, 3) := by decide +kernel
theorem dL_refusesAny_285 : decode cL_refusesAny 285 = .ok (.aload_n 0, 1) := by decide +kernel
theorem dL_refusesAny_286 : decode cL_refusesAny 286 = .ok (.iload_n 2, 1) := by decide +kernel
theorem dL_refusesAny_287 : decode cL_refusesAny 287 = .ok (.iconst 0, 1) := by decide +kernel
theorem dL_refusesAny_288 : decode cL_refusesAny 288 = .ok (.invokevirtual 47, 3) := by decide +kernel
theorem dL_refusesAny_291 : decode cL_refusesAny 291 = .ok (.iconst (-1), 1) := by decide +kernel
theorem dL_refusesAny_292 : decode cL_refusesAny 292 = .ok (.if_icmp .ne 188, 3) := by decide +kernel
theorem dL_refusesAny_295 : decode cL_refusesAny 295 = .ok (.aload_n 0, 1) := by decide +kernel
theorem dL_refusesAny_296 : decode cL_refusesAny 296 = .ok (.iconst 0, 1) := by decide +kernel
theorem dL_refusesAny_297 : decode cL_refusesAny 297 = .ok (.iload_n 2, 1) := by decide +kernel
theorem dL_refusesAny_298 : decode cL_refusesAny 298 = .ok (.invokevirtual 47, 3) := by decide +kernel
theorem dL_refusesAny_301 : decode cL_refusesAny 301 = .ok (.iconst (-1), 1) := by decide +kernel
theorem dL_refusesAny_302 : decode cL_refusesAny 302 = .ok (.if_icmp .ne 178, 3) := by decide +kernel
theorem dL_refusesAny_305 : decode cL_refusesAny 305 = .ok (.aload_n 0, 1) := by decide +kernel
theorem dL_refusesAny_306 : decode cL_refusesAny 306 = .ok (.iload 4, 2) := by decide +kernel
theorem dL_refusesAny_308 : decode cL_refusesAny 308 = .ok (.bipush 9, 2) := by decide +kernel
theorem dL_refusesAny_310 : decode cL_refusesAny 310 = .ok (.invokevirtual 21, 3) := by decide +kernel
theorem dL_refusesAny_313 : decode cL_refusesAny 313 = .ok (.iconst (-1), 1) := by decide +kernel
theorem dL_refusesAny_314 : decode cL_refusesAny 314 = .ok (.if_icmp .ne 166, 3) := by decide +kernel
theorem dL_refusesAny_317 : decode cL_refusesAny 317 = .ok (.aload_n 0, 1) := by decide +kernel
theorem dL_refusesAny_318 : decode cL_refusesAny 318 = .ok (.iload_n 1, 1) := by decide +kernel
theorem dL_refusesAny_319 : decode cL_refusesAny 319 = .ok (.ifCond .ne 7, 3) := by decide +kernel
theorem dL_refusesAny_322 : decode cL_refusesAny 322 = .ok (.iconst 3, 1) := by decide +kernel
theorem dL_refusesAny_323 : decode cL_refusesAny 323 = .ok (.goto 5, 3) := by decide +kernel
theorem dL_refusesAny_326 : decode cL_refusesAny 326 = .ok (.bipush 32, 2) := by decide +kernel
theorem dL_refusesAny_328 : decode cL_refusesAny 328 = .ok (.iconst 0, 1) := by decide +kernel
theorem dL_refusesAny_329 : decode cL_refusesAny 329 = .ok (.invokevirtual 21, 3) := by decide +kernel
theorem dL_refusesAny_332 : decode cL_refusesAny 332 = .ok (.iconst (-1), 1) := by decide +kernel
theorem dL_refusesAny_333 : decode cL_refusesAny 333 = .ok (.if_icmp .ne 147, 3) := by decide +kernel
theorem dL_refusesAny_336 : decode cL_refusesAny 336 = .ok (.aload_n 0, 1) := by decide +kernel
theorem dL_refusesAny_337 : decode cL_refusesAny 337 = .ok (.iconst 1, 1) := by decide +kernel
theorem dL_refusesAny_338 : decode cL_refusesAny 338 = .ok (.iload_n 1, 1) := by decide +kernel
theorem dL_refusesAny_339 : decode cL_refusesAny 339 = .ok (.ifCond .ne 7, 3) := by decide +kernel
theorem dL_refusesAny_342 : decode cL_refusesAny 342 = .ok (.iconst (-1), 1) := by decide +kernel
theorem dL_refusesAny_343 : decode cL_refusesAny 343 = .ok (.goto 5, 3) := by decide +kernel
theorem dL_refusesAny_346 : decode cL_refusesAny 346 = .ok (.bipush 8, 2) := by decide +kernel
theorem dL_refusesAny_348 : decode cL_refusesAny 348 = .ok (.invokevirtual 21, 3) := by decide +kernel
theorem dL_refusesAny_351 : decode cL_refusesAny 351 = .ok (.bipush (-2), 2) := by decide +kernel
theorem dL_refusesAny_353 : decode cL_refusesAny 353 = .ok (.if_icmp .ne 127, 3) := by decide +kernel
theorem dL_refusesAny_356 : decode cL_refusesAny 356 = .ok (.aload_n 0, 1) := by decide +kernel
theorem dL_refusesAny_357 : decode cL_refusesAny 357 = .ok (.iload 4, 2) := by decide +kernel
theorem dL_refusesAny_359 : decode cL_refusesAny 359 = .ok (.iconst 0, 1) := by decide +kernel
theorem dL_refusesAny_360 : decode cL_refusesAny 360 = .ok (.invokevirtual 50, 3) := by decide +kernel
theorem dL_refusesAny_363 : decode cL_refusesAny 363 = .ok (.iconst (-1), 1) := by decide +kernel
theorem dL_refusesAny_364 : decode cL_refusesAny 364 = .ok (.if_icmp .ne 116, 3) := by decide +kernel
theorem dL_refusesAny_367 : decode cL_refusesAny 367 = .ok (.aload_n 0, 1) := by decide +kernel
theorem dL_refusesAny_368 : decode cL_refusesAny 368 = .ok (.iconst 1, 1) := by decide +kernel
theorem dL_refusesAny_369 : decode cL_refusesAny 369 = .ok (.iconst 0, 1) := by decide +kernel
theorem dL_refusesAny_370 : decode cL_refusesAny 370 = .ok (.invokevirtual 50, 3) := by decide +kernel
theorem dL_refusesAny_373 : decode cL_refusesAny 373 = .ok (.iconst (-1), 1) := by decide +kernel
theorem dL_refusesAny_374 : decode cL_refusesAny 374 = .ok (.if_icmp .ne 106, 3) := by decide +kernel
theorem dL_refusesAny_377 : decode cL_refusesAny 377 = .ok (.aload_n 0, 1) := by decide +kernel
theorem dL_refusesAny_378 : decode cL_refusesAny 378 = .ok (.bipush 7, 2) := by decide +kernel
theorem dL_refusesAny_380 : decode cL_refusesAny 380 = .ok (.iload_n 1, 1) := by decide +kernel
theorem dL_refusesAny_381 : decode cL_refusesAny 381 = .ok (.ifCond .ne 7, 3) := by decide +kernel
theorem dL_refusesAny_384 : decode cL_refusesAny 384 = .ok (.iconst (-1), 1) := by decide +kernel
theorem dL_refusesAny_385 : decode cL_refusesAny 385 = .ok (.goto 4, 3) := by decide +kernel
theorem dL_refusesAny_388 : decode cL_refusesAny 388 = .ok (.iconst 1, 1) := by decide +kernel
theorem dL_refusesAny_389 : decode cL_refusesAny 389 = .ok (.invokevirtual 50, 3) := by decide +kernel
theorem dL_refusesAny_392 : decode cL_refusesAny 392 = .ok (.iconst (-1), 1) := by decide +kernel
theorem dL_refusesAny_393 : decode cL_refusesAny 393 = .ok (.if_icmp .ne 87, 3) := by decide +kernel
theorem dL_refusesAny_396 : decode cL_refusesAny 396 = .ok (.aload_n 0, 1) := by decide +kernel
theorem dL_refusesAny_397 : decode cL_refusesAny 397 = .ok (.iload 4, 2) := by decide +kernel
theorem dL_refusesAny_399 : decode cL_refusesAny 399 = .ok (.bipush 9, 2) := by decide +kernel
theorem dL_refusesAny_401 : decode cL_refusesAny 401 = .ok (.bipush 9, 2) := by decide +kernel
theorem dL_refusesAny_403 : decode cL_refusesAny 403 = .ok (.invokevirtual 53, 3) := by decide +kernel
theorem dL_refusesAny_406 : decode cL_refusesAny 406 = .ok (.iconst (-1), 1) := by decide +kernel
theorem dL_refusesAny_407 : decode cL_refusesAny 407 = .ok (.if_icmp .ne 73, 3) := by decide +kernel
theorem dL_refusesAny_410 : decode cL_refusesAny 410 = .ok (.aload_n 0, 1) := by decide +kernel
theorem dL_refusesAny_411 : decode cL_refusesAny 411 = .ok (.iconst 1, 1) := by decide +kernel
