theorem dL_limits_83 : decode cL_limits 83 = .ok (.iconst 0, 1) := by decide +kernel
theorem dL_limits_84 : decode cL_limits 84 = .ok (.iconst 0, 1) := by decide +kernel
theorem dL_limits_85 : decode cL_limits 85 = .ok (.invokevirtual 66, 3) := by decide +kernel
theorem dL_limits_88 : decode cL_limits 88 = .ok (.bipush (-5), 2) := by decide +kernel
theorem dL_limits_90 : decode cL_limits 90 = .ok (.if_icmp .ne 35, 3) := by decide +kernel
theorem dL_limits_93 : decode cL_limits 93 = .ok (.aload_n 0, 1) := by decide +kernel
theorem dL_limits_94 : decode cL_limits 94 = .ok (.iconst 0, 1) := by decide +kernel
theorem dL_limits_95 : decode cL_limits 95 = .ok (.iconst 0, 1) := by decide +kernel
theorem dL_limits_96 : decode cL_limits 96 = .ok (.bipush 63, 2) := by decide +kernel
theorem dL_limits_98 : decode cL_limits 98 = .ok (.iconst 0, 1) := by decide +kernel
theorem dL_limits_99 : decode cL_limits 99 = .ok (.iconst 0, 1) := by decide +kernel
theorem dL_limits_100 : decode cL_limits 100 = .ok (.invokevirtual 59, 3) := by decide +kernel
theorem dL_limits_103 : decode cL_limits 103 = .ok (.bipush 50, 2) := by decide +kernel
theorem dL_limits_105 : decode cL_limits 105 = .ok (.if_icmp .ne 20, 3) := by decide +kernel
theorem dL_limits_108 : decode cL_limits 108 = .ok (.aload_n 0, 1) := by decide +kernel
theorem dL_limits_109 : decode cL_limits 109 = .ok (.bipush 10, 2) := by decide +kernel
theorem dL_limits_111 : decode cL_limits 111 = .ok (.iconst 0, 1) := by decide +kernel
theorem dL_limits_112 : decode cL_limits 112 = .ok (.bipush 19, 2) := by decide +kernel
theorem dL_limits_114 : decode cL_limits 114 = .ok (.bipush 9, 2) := by decide +kernel
theorem dL_limits_116 : decode cL_limits 116 = .ok (.iconst 0, 1) := by decide +kernel
theorem dL_limits_117 : decode cL_limits 117 = .ok (.invokevirtual 59, 3) := by decide +kernel
theorem dL_limits_120 : decode cL_limits 120 = .ok (.bipush 10, 2) := by decide +kernel
theorem dL_limits_122 : decode cL_limits 122 = .ok (.if_icmp .eq 5, 3) := by decide +kernel
theorem dL_limits_125 : decode cL_limits 125 = .ok (.iconst 0, 1) := by decide +kernel
theorem dL_limits_126 : decode cL_limits 126 = .ok (.ireturn, 1) := by decide +kernel
theorem dL_limits_127 : decode cL_limits 127 = .ok (.iconst 0, 1) := by decide +kernel
theorem dL_limits_128 : decode cL_limits 128 = .ok (.istore_n 1, 1) := by decide +kernel
theorem dL_limits_129 : decode cL_limits 129 = .ok (.iload_n 1, 1) := by decide +kernel
theorem dL_limits_130 : decode cL_limits 130 = .ok (.bipush 12, 2) := by decide +kernel
theorem dL_limits_132 : decode cL_limits 132 = .ok (.if_icmp .ge 35, 3) := by decide +kernel
theorem dL_limits_135 : decode cL_limits 135 = .ok (.aload_n 0, 1) := by decide +kernel
theorem dL_limits_136 : decode cL_limits 136 = .ok (.bipush 16, 2) := by decide +kernel
theorem dL_limits_138 : decode cL_limits 138 = .ok (.iload_n 1, 1) := by decide +kernel
theorem dL_limits_139 : decode cL_limits 139 = .ok (.iadd, 1) := by decide +kernel
theorem dL_limits_140 : decode cL_limits 140 = .ok (.iconst 1, 1) := by decide +kernel
theorem dL_limits_141 : decode cL_limits 141 = .ok (.invokevirtual 39, 3) := by decide +kernel
theorem dL_limits_144 : decode cL_limits 144 = .ok (.iconst 1, 1) := by decide +kernel
theorem dL_limits_145 : decode cL_limits 145 = .ok (.if_icmp .lt 14, 3) := by decide +kernel
theorem dL_limits_148 : decode cL_limits 148 = .ok (.aload_n 0, 1) := by decide +kernel
theorem dL_limits_149 : decode cL_limits 149 = .ok (.iconst 5, 1) := by decide +kernel
theorem dL_limits_150 : decode cL_limits 150 = .ok (.invokevirtual 11, 3) := by decide +kernel
theorem dL_limits_153 : decode cL_limits 153 = .ok (.iload_n 1, 1) := by decide +kernel
theorem dL_limits_154 : decode cL_limits 154 = .ok (.iconst 1, 1) := by decide +kernel
theorem dL_limits_155 : decode cL_limits 155 = .ok (.iadd, 1) := by decide +kernel
theorem dL_limits_156 : decode cL_limits 156 = .ok (.if_icmp .eq 5, 3) := by decide +kernel
theorem dL_limits_159 : decode cL_limits 159 = .ok (.iconst 0, 1) := by decide +kernel
theorem dL_limits_160 : decode cL_limits 160 = .ok (.ireturn, 1) := by decide +kernel
theorem dL_limits_161 : decode cL_limits 161 = .ok (.iinc 1 1, 3) := by decide +kernel
theorem dL_limits_164 : decode cL_limits 164 = .ok (.goto (-35), 3) := by decide +kernel
theorem dL_limits_167 : decode cL_limits 167 = .ok (.aload_n 0, 1) := by decide +kernel
theorem dL_limits_168 : decode cL_limits 168 = .ok (.bipush 28, 2) := by decide +kernel
theorem dL_limits_170 : decode cL_limits 170 = .ok (.iconst 1, 1) := by decide +kernel
theorem dL_limits_171 : decode cL_limits 171 = .ok (.invokevirtual 39, 3) := by decide +kernel
theorem dL_limits_174 : decode cL_limits 174 = .ok (.bipush (-4), 2) := by decide +kernel
theorem dL_limits_176 : decode cL_limits 176 = .ok (.if_icmp .ne 79, 3) := by decide +kernel
theorem dL_limits_179 : decode cL_limits 179 = .ok (.aload_n 0, 1) := by decide +kernel
theorem dL_limits_180 : decode cL_limits 180 = .ok (.bipush 16, 2) := by decide +kernel
theorem dL_limits_182 : decode cL_limits 182 = .ok (.iconst 1, 1) := by decide +kernel
theorem dL_limits_183 : decode cL_limits 183 = .ok (.invokevirtual 39, 3) := by decide +kernel
theorem dL_limits_186 : decode cL_limits 186 = .ok (.bipush (-5), 2) := by decide +kernel
theorem dL_limits_188 : decode cL_limits 188 = .ok (.if_icmp .ne 67, 3) := by decide +kernel
theorem dL_limits_191 : decode cL_limits 191 = .ok (.aload_n 0, 1) := by decide +kernel
theorem dL_limits_192 : decode cL_limits 192 = .ok (.bipush 16, 2) := by decide +kernel
theorem dL_limits_194 : decode cL_limits 194 = .ok (.iconst 0, 1) := by decide +kernel
theorem dL_limits_195 : decode cL_limits 195 = .ok (.invokevirtual 39, 3) := by decide +kernel
theorem dL_limits_198 : decode cL_limits 198 = .ok (.ifCond .le 57, 3) := by decide +kernel
theorem dL_limits_201 : decode cL_limits 201 = .ok (.aload_n 0, 1) := by decide +kernel
theorem dL_limits_202 : decode cL_limits 202 = .ok (.bipush 28, 2) := by decide +kernel
theorem dL_limits_204 : decode cL_limits 204 = .ok (.iconst 1, 1) := by decide +kernel
theorem dL_limits_205 : decode cL_limits 205 = .ok (.invokevirtual 39, 3) := by decide +kernel
theorem dL_limits_208 : decode cL_limits 208 = .ok (.ifCond .le 47, 3) := by decide +kernel
theorem dL_limits_211 : decode cL_limits 211 = .ok (.aload_n 0, 1) := by decide +kernel
theorem dL_limits_212 : decode cL_limits 212 = .ok (.iconst 5, 1) := by decide +kernel
theorem dL_limits_213 : decode cL_limits 213 = .ok (.invokevirtual 11, 3) := by decide +kernel
theorem dL_limits_216 : decode cL_limits 216 = .ok (.bipush 12, 2) := by decide +kernel
theorem dL_limits_218 : decode cL_limits 218 = .ok (.if_icmp .ne 37, 3) := by decide +kernel
theorem dL_limits_221 : decode cL_limits 221 = .ok (.aload_n 0, 1) := by decide +kernel
theorem dL_limits_222 : decode cL_limits 222 = .ok (.bipush 16, 2) := by decide +kernel
theorem dL_limits_224 : decode cL_limits 224 = .ok (.bipush 6, 2) := by decide +kernel
theorem dL_limits_226 : decode cL_limits 226 = .ok (.invokevirtual 21, 3) := by decide +kernel
theorem dL_limits_229 : decode cL_limits 229 = .ok (.ifCond .ne 26, 3) := by decide +kernel
theorem dL_limits_232 : decode cL_limits 232 = .ok (.aload_n 0, 1) := by decide +kernel
theorem dL_limits_233 : decode cL_limits 233 = .ok (.bipush 28, 2) := by decide +kernel
theorem dL_limits_235 : decode cL_limits 235 = .ok (.bipush 6, 2) := by decide +kernel
theorem dL_limits_237 : decode cL_limits 237 = .ok (.invokevirtual 21, 3) := by decide +kernel
theorem dL_limits_240 : decode cL_limits 240 = .ok (.iconst 1, 1) := by decide +kernel
theorem dL_limits_241 : decode cL_limits 241 = .ok (.if_icmp .ne 14, 3) := by decide +kernel
theorem dL_limits_244 : decode cL_limits 244 = .ok (.aload_n 0, 1) := by decide +kernel
theorem dL_limits_245 : decode cL_limits 245 = .ok (.invokestatic 100, 3) := by decide +kernel
theorem dL_limits_248 : decode cL_limits 248 = .ok (.ifCond .eq 7, 3) := by decide +kernel
theorem dL_limits_251 : decode cL_limits 251 = .ok (.iconst 1, 1) := by decide +kernel
theorem dL_limits_252 : decode cL_limits 252 = .ok (.goto 4, 3) := by decide +kernel
theorem dL_limits_255 : decode cL_limits 255 = .ok (.iconst 0, 1) := by decide +kernel
theorem dL_limits_256 : decode cL_limits 256 = .ok (.ireturn, 1) := by decide +kernel
set_option maxRecDepth 20000 in
theorem ggL_texts_X7_init : GoodIn wsL_texts wsX7_init := goodIn_r _ [23, 24, 25, 26, 27, 28, 29, 30, 31, 32, 33, 34, 35, 36, 37, 38, 39, 40, 41, 42, 43, 44, 45, 46, 47, 48, 49, 50, 51, 52, 53, 54, 55, 56, 57, 58, 59, 60, 61, 62, 63, 64, 65, 66, 67, 68, 69, 70, 71, 72, 73, 74, 75, 76, 77, 313, 314, 309, 310, 311, 312, 315, 316, 317, 318, 319, 320, 321, 322, 323, 324, 325, 326, 327] (by decide +kernel) (by decide +kernel)
set_option maxRecDepth 20000 in
theorem gL_texts_X7_init : GoodIn wsL_texts (wsX7_init) := ggL_texts_X7_init
set_option maxRecDepth 20000 in
theorem ggL_texts_X7_fault : GoodIn wsL_texts wsX7_fault := goodIn_r _ [81, 42, 82, 83, 84, 41, 85, 86, 87, 88, 89, 90, 76, 91, 92, 93, 94, 95, 96, 309, 310, 311, 312, 319, 320, 321] (by decide +kernel) (by decide +kernel)
set_option maxRecDepth 20000 in
theorem gL_texts_X7_fault : GoodIn wsL_texts (wsV RL 104 RX7 yX7_fault wsX7_fault) := goodIn_app (goodIn_of _ (by decide +kernel)) ggL_texts_X7_fault
set_option maxRecDepth 20000 in
theorem ggL_texts_X7_putAll : GoodIn wsL_texts wsX7_putAll := goodIn_r _ [100, 42, 34, 30, 101, 82, 83, 84, 41, 85, 86, 87, 88, 89, 90, 76, 91, 92, 93, 94, 95, 96, 102, 103, 104, 33, 105, 106, 64, 107, 108, 109, 110, 111, 112, 113, 48, 114, 55, 115, 116, 117, 118, 56, 119, 120, 57, 58, 121, 122, 123, 124, 77, 125, 126, 127, 128, 129, 130, 131, 132, 133, 134, 135, 136, 137, 138, 139, 140, 141, 142, 143, 144, 145, 146, 147, 148, 149, 150, 151, 29, 152, 49, 153, 154, 155, 156, 157, 158, 159, 160, 51, 161, 162, 163, 164, 165, 166, 167, 309, 310, 311, 312, 313, 314, 319, 320, 321, 315, 316, 322, 323, 324, 325, 326, 327] (by decide +kernel) (by decide +kernel)
set_option maxRecDepth 20000 in
theorem gL_texts_X7_putAll : GoodIn wsL_texts (wsV RL 43 RX7 yX7_putAll wsX7_putAll) := goodIn_app (goodIn_of _ (by decide +kernel)) ggL_texts_X7_putAll
set_option maxRecDepth 20000 in
theorem ggL_texts_X7_put : GoodIn wsL_texts wsX7_put := goodIn_r _ [171, 42, 172, 173, 174, 41, 175, 176, 177, 178, 179, 180, 181, 182, 86, 76, 309, 310, 311, 312, 319, 320, 321] (by decide +kernel) (by decide +kernel)
set_option maxRecDepth 20000 in
theorem gL_texts_X7_put : GoodIn wsL_texts (wsV RL 80 RX7 yX7_put wsX7_put) := goodIn_app (goodIn_of _ (by decide +kernel)) ggL_texts_X7_put
set_option maxRecDepth 20000 in
theorem ggL_texts_X7_wipe : GoodIn wsL_texts wsX7_wipe := goodIn_r _ [186, 42, 172, 164, 165, 166, 41, 167, 86, 309, 310, 311, 312, 319, 320, 321] (by decide +kernel) (by decide +kernel)
set_option maxRecDepth 20000 in
theorem gL_texts_X7_wipe : GoodIn wsL_texts (wsV RL 109 RX7 yX7_wipe wsX7_wipe) := goodIn_app (goodIn_of _ (by decide +kernel)) ggL_texts_X7_wipe
set_option maxRecDepth 20000 in
theorem ggL_texts_X7_count : GoodIn wsL_texts wsX7_count := goodIn_r _ [190, 30, 101, 191, 192, 193, 194, 42, 172, 34, 195, 196, 197, 198, 29, 199, 200, 201, 202, 203, 204, 205, 206, 49, 207, 208, 209, 210, 211, 212, 51, 213, 214, 215, 48, 216, 217, 218, 219, 220, 120, 56, 221, 222, 223, 224, 225, 226, 227, 228, 229, 230, 231, 232, 233, 234, 235, 236, 237, 238, 239, 240, 241, 242, 243, 127, 244, 245, 246, 247, 248, 249, 250, 251, 252, 253, 254, 255, 256, 257, 258, 259, 260, 261, 262, 263, 264, 265, 126, 128, 266, 162, 163, 267, 268, 269, 270, 271, 161, 272, 309, 310, 311, 312, 313, 314, 322, 323, 324, 325, 326, 327, 319, 320, 321, 315, 316] (by decide +kernel) (by decide +kernel)
set_option maxRecDepth 20000 in
theorem gL_texts_X7_count : GoodIn wsL_texts (wsV RL 11 RX7 yX7_count wsX7_count) := goodIn_app (goodIn_of _ (by decide +kernel)) ggL_texts_X7_count
set_option maxRecDepth 20000 in
theorem ggL_texts_X7_of : GoodIn wsL_texts wsX7_of := goodIn_r _ [276, 30, 101, 277, 146, 147, 48, 148, 119, 278, 142, 143, 144, 55, 145, 279, 251, 127, 252, 253, 254, 255, 256, 257, 258, 280, 260, 261, 281, 282, 283, 29, 284, 268, 269, 270, 271, 161, 162, 163, 203, 204, 205, 206, 49, 207, 208, 209, 210, 211, 212, 51, 213, 214, 215, 216, 217, 218, 219, 220, 120, 56, 285, 286, 287, 288, 141, 309, 310, 311, 312, 313, 314, 322, 323, 324, 325, 326, 327] (by decide +kernel) (by decide +kernel)
set_option maxRecDepth 20000 in
theorem gL_texts_X7_of : GoodIn wsL_texts (wsV RL 17 RX7 yX7_of wsX7_of) := goodIn_app (goodIn_of _ (by decide +kernel)) ggL_texts_X7_of
set_option maxRecDepth 20000 in
theorem ggL_texts_X7_undo : GoodIn wsL_texts wsX7_undo := goodIn_r _ [292, 34, 195, 30, 293, 294, 295, 33, 296, 106, 297, 229, 230, 231, 64, 298, 299, 300, 29, 301, 49, 302, 303, 304, 305, 306, 307, 142, 143, 48, 144, 55, 145, 146, 147, 148, 119, 157, 158, 159, 160, 51, 161, 162, 127, 163, 308, 112, 113, 114, 115, 116, 117, 118, 56, 120, 57, 58, 309, 310, 311, 312, 315, 316, 313, 314, 322, 323, 324, 325, 326, 327] (by decide +kernel) (by decide +kernel)
set_option maxRecDepth 20000 in
theorem gL_texts_X7_undo : GoodIn wsL_texts (wsV RL 97 RX7 yX7_undo wsX7_undo) := goodIn_app (goodIn_of _ (by decide +kernel)) ggL_texts_X7_undo
