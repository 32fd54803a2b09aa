theorem dL_corner_58 : decode cL_corner 58 = .ok (.iconst 1, 1) := by decide +kernel
theorem dL_corner_59 : decode cL_corner 59 = .ok (.if_icmp .ne 258, 3) := by decide +kernel
theorem dL_corner_62 : decode cL_corner 62 = .ok (.aload_n 0, 1) := by decide +kernel
theorem dL_corner_63 : decode cL_corner 63 = .ok (.bipush 6, 2) := by decide +kernel
theorem dL_corner_65 : decode cL_corner 65 = .ok (.invokevirtual 11, 3) := by decide +kernel
theorem dL_corner_68 : decode cL_corner 68 = .ok (.ifCond .ne 249, 3) := by decide +kernel
theorem dL_corner_71 : decode cL_corner 71 = .ok (.aload_n 0, 1) := by decide +kernel
theorem dL_corner_72 : decode cL_corner 72 = .ok (.bipush 63, 2) := by decide +kernel
theorem dL_corner_74 : decode cL_corner 74 = .ok (.iconst 0, 1) := by decide +kernel
theorem dL_corner_75 : decode cL_corner 75 = .ok (.invokevirtual 47, 3) := by decide +kernel
theorem dL_corner_78 : decode cL_corner 78 = .ok (.iconst 1, 1) := by decide +kernel
theorem dL_corner_79 : decode cL_corner 79 = .ok (.if_icmp .ne 238, 3) := by decide +kernel
theorem dL_corner_82 : decode cL_corner 82 = .ok (.aload_n 0, 1) := by decide +kernel
theorem dL_corner_83 : decode cL_corner 83 = .ok (.iconst 1, 1) := by decide +kernel
theorem dL_corner_84 : decode cL_corner 84 = .ok (.iconst 2, 1) := by decide +kernel
theorem dL_corner_85 : decode cL_corner 85 = .ok (.invokevirtual 21, 3) := by decide +kernel
theorem dL_corner_88 : decode cL_corner 88 = .ok (.bipush 64, 2) := by decide +kernel
theorem dL_corner_90 : decode cL_corner 90 = .ok (.if_icmp .ne 227, 3) := by decide +kernel
theorem dL_corner_93 : decode cL_corner 93 = .ok (.aload_n 0, 1) := by decide +kernel
theorem dL_corner_94 : decode cL_corner 94 = .ok (.iconst 1, 1) := by decide +kernel
theorem dL_corner_95 : decode cL_corner 95 = .ok (.bipush 7, 2) := by decide +kernel
theorem dL_corner_97 : decode cL_corner 97 = .ok (.invokevirtual 21, 3) := by decide +kernel
theorem dL_corner_100 : decode cL_corner 100 = .ok (.iconst 1, 1) := by decide +kernel
theorem dL_corner_101 : decode cL_corner 101 = .ok (.if_icmp .ne 216, 3) := by decide +kernel
theorem dL_corner_104 : decode cL_corner 104 = .ok (.aload_n 0, 1) := by decide +kernel
theorem dL_corner_105 : decode cL_corner 105 = .ok (.iconst 4, 1) := by decide +kernel
theorem dL_corner_106 : decode cL_corner 106 = .ok (.iconst 5, 1) := by decide +kernel
theorem dL_corner_107 : decode cL_corner 107 = .ok (.invokevirtual 21, 3) := by decide +kernel
theorem dL_corner_110 : decode cL_corner 110 = .ok (.ifCond .ne 207, 3) := by decide +kernel
theorem dL_corner_113 : decode cL_corner 113 = .ok (.aload_n 0, 1) := by decide +kernel
theorem dL_corner_114 : decode cL_corner 114 = .ok (.iconst 4, 1) := by decide +kernel
theorem dL_corner_115 : decode cL_corner 115 = .ok (.bipush 7, 2) := by decide +kernel
theorem dL_corner_117 : decode cL_corner 117 = .ok (.invokevirtual 21, 3) := by decide +kernel
theorem dL_corner_120 : decode cL_corner 120 = .ok (.ifCond .ne 197, 3) := by decide +kernel
theorem dL_corner_123 : decode cL_corner 123 = .ok (.aload_n 0, 1) := by decide +kernel
theorem dL_corner_124 : decode cL_corner 124 = .ok (.iconst 1, 1) := by decide +kernel
theorem dL_corner_125 : decode cL_corner 125 = .ok (.iconst 0, 1) := by decide +kernel
theorem dL_corner_126 : decode cL_corner 126 = .ok (.iconst 0, 1) := by decide +kernel
theorem dL_corner_127 : decode cL_corner 127 = .ok (.invokevirtual 53, 3) := by decide +kernel
theorem dL_corner_130 : decode cL_corner 130 = .ok (.bipush (-6), 2) := by decide +kernel
theorem dL_corner_132 : decode cL_corner 132 = .ok (.if_icmp .ne 185, 3) := by decide +kernel
theorem dL_corner_135 : decode cL_corner 135 = .ok (.aload_n 0, 1) := by decide +kernel
theorem dL_corner_136 : decode cL_corner 136 = .ok (.iconst 1, 1) := by decide +kernel
theorem dL_corner_137 : decode cL_corner 137 = .ok (.invokevirtual 56, 3) := by decide +kernel
theorem dL_corner_140 : decode cL_corner 140 = .ok (.ifCond .ne 177, 3) := by decide +kernel
theorem dL_corner_143 : decode cL_corner 143 = .ok (.aload_n 0, 1) := by decide +kernel
theorem dL_corner_144 : decode cL_corner 144 = .ok (.iconst 4, 1) := by decide +kernel
theorem dL_corner_145 : decode cL_corner 145 = .ok (.invokevirtual 56, 3) := by decide +kernel
theorem dL_corner_148 : decode cL_corner 148 = .ok (.bipush (-5), 2) := by decide +kernel
theorem dL_corner_150 : decode cL_corner 150 = .ok (.if_icmp .ne 167, 3) := by decide +kernel
theorem dL_corner_153 : decode cL_corner 153 = .ok (.aload_n 0, 1) := by decide +kernel
theorem dL_corner_154 : decode cL_corner 154 = .ok (.iconst 3, 1) := by decide +kernel
theorem dL_corner_155 : decode cL_corner 155 = .ok (.iconst 3, 1) := by decide +kernel
theorem dL_corner_156 : decode cL_corner 156 = .ok (.iconst 0, 1) := by decide +kernel
theorem dL_corner_157 : decode cL_corner 157 = .ok (.invokevirtual 63, 3) := by decide +kernel
theorem dL_corner_160 : decode cL_corner 160 = .ok (.bipush (-6), 2) := by decide +kernel
theorem dL_corner_162 : decode cL_corner 162 = .ok (.if_icmp .ne 155, 3) := by decide +kernel
theorem dL_corner_165 : decode cL_corner 165 = .ok (.aload_n 0, 1) := by decide +kernel
theorem dL_corner_166 : decode cL_corner 166 = .ok (.iconst 3, 1) := by decide +kernel
theorem dL_corner_167 : decode cL_corner 167 = .ok (.iconst 3, 1) := by decide +kernel
theorem dL_corner_168 : decode cL_corner 168 = .ok (.iconst 1, 1) := by decide +kernel
theorem dL_corner_169 : decode cL_corner 169 = .ok (.invokevirtual 63, 3) := by decide +kernel
theorem dL_corner_172 : decode cL_corner 172 = .ok (.bipush (-6), 2) := by decide +kernel
theorem dL_corner_174 : decode cL_corner 174 = .ok (.if_icmp .ne 143, 3) := by decide +kernel
theorem dL_corner_177 : decode cL_corner 177 = .ok (.aload_n 0, 1) := by decide +kernel
theorem dL_corner_178 : decode cL_corner 178 = .ok (.iconst 1, 1) := by decide +kernel
theorem dL_corner_179 : decode cL_corner 179 = .ok (.invokevirtual 69, 3) := by decide +kernel
theorem dL_corner_182 : decode cL_corner 182 = .ok (.iconst 1, 1) := by decide +kernel
theorem dL_corner_183 : decode cL_corner 183 = .ok (.if_icmp .ne 134, 3) := by decide +kernel
theorem dL_corner_186 : decode cL_corner 186 = .ok (.aload_n 0, 1) := by decide +kernel
theorem dL_corner_187 : decode cL_corner 187 = .ok (.iconst 0, 1) := by decide +kernel
theorem dL_corner_188 : decode cL_corner 188 = .ok (.iconst 0, 1) := by decide +kernel
theorem dL_corner_189 : decode cL_corner 189 = .ok (.invokevirtual 29, 3) := by decide +kernel
theorem dL_corner_192 : decode cL_corner 192 = .ok (.iconst 1, 1) := by decide +kernel
theorem dL_corner_193 : decode cL_corner 193 = .ok (.if_icmp .ne 124, 3) := by decide +kernel
theorem dL_corner_196 : decode cL_corner 196 = .ok (.aload_n 0, 1) := by decide +kernel
theorem dL_corner_197 : decode cL_corner 197 = .ok (.iconst 1, 1) := by decide +kernel
theorem dL_corner_198 : decode cL_corner 198 = .ok (.iconst 0, 1) := by decide +kernel
theorem dL_corner_199 : decode cL_corner 199 = .ok (.invokevirtual 29, 3) := by decide +kernel
theorem dL_corner_202 : decode cL_corner 202 = .ok (.iconst 1, 1) := by decide +kernel
theorem dL_corner_203 : decode cL_corner 203 = .ok (.if_icmp .ne 114, 3) := by decide +kernel
theorem dL_corner_206 : decode cL_corner 206 = .ok (.aload_n 0, 1) := by decide +kernel
theorem dL_corner_207 : decode cL_corner 207 = .ok (.bipush 63, 2) := by decide +kernel
theorem dL_corner_209 : decode cL_corner 209 = .ok (.bipush 63, 2) := by decide +kernel
theorem dL_corner_211 : decode cL_corner 211 = .ok (.invokevirtual 29, 3) := by decide +kernel
theorem dL_corner_214 : decode cL_corner 214 = .ok (.iconst 4, 1) := by decide +kernel
theorem dL_corner_215 : decode cL_corner 215 = .ok (.if_icmp .ne 102, 3) := by decide +kernel
theorem dL_corner_218 : decode cL_corner 218 = .ok (.aload_n 0, 1) := by decide +kernel
theorem dL_corner_219 : decode cL_corner 219 = .ok (.iconst 2, 1) := by decide +kernel
theorem dL_corner_220 : decode cL_corner 220 = .ok (.invokevirtual 11, 3) := by decide +kernel
theorem dL_corner_223 : decode cL_corner 223 = .ok (.iconst 5, 1) := by decide +kernel
theorem dL_corner_224 : decode cL_corner 224 = .ok (.if_icmp .ne 93, 3) := by decide +kernel
theorem dL_corner_227 : decode cL_corner 227 = .ok (.aload_n 0, 1) := by decide +kernel
theorem dL_corner_228 : decode cL_corner 228 = .ok (.iconst 0, 1) := by decide +kernel
theorem dL_corner_229 : decode cL_corner 229 = .ok (.iconst 2, 1) := by decide +kernel
theorem dL_corner_230 : decode cL_corner 230 = .ok (.invokevirtual 17, 3) := by decide +kernel
theorem dL_corner_233 : decode cL_corner 233 = .ok (.iconst 4, 1) := by decide +kernel
theorem dL_corner_234 : decode cL_corner 234 = .ok (.if_icmp .ne 83, 3) := by decide +kernel
theorem dL_corner_237 : decode cL_corner 237 = .ok (.aload_n 0, 1) := by decide +kernel
theorem dL_corner_238 : decode cL_corner 238 = .ok (.iconst 2, 1) := by decide +kernel
theorem dL_corner_239 : decode cL_corner 239 = .ok (.iconst 2, 1) := by decide +kernel
theorem dL_corner_240 : decode cL_corner 240 = .ok (.invokevirtual 17, 3) := by decide +kernel
theorem dL_corner_243 : decode cL_corner 243 = .ok (.bipush 7, 2) := by decide +kernel
theorem dL_corner_245 : decode cL_corner 245 = .ok (.if_icmp .ne 72, 3) := by decide +kernel
theorem dL_corner_248 : decode cL_corner 248 = .ok (.aload_n 0, 1) := by decide +kernel
theorem dL_corner_249 : decode cL_corner 249 = .ok (.bipush 32, 2) := by decide +kernel
theorem dL_corner_251 : decode cL_corner 251 = .ok (.iconst 0, 1) := by decide +kernel
theorem dL_corner_252 : decode cL_corner 252 = .ok (.invokevirtual 47, 3) := by decide +kernel
theorem dL_corner_255 : decode cL_corner 255 = .ok (.iconst 5, 1) := by decide +kernel
theorem dL_corner_256 : decode cL_corner 256 = .ok (.if_icmp .ne 61, 3) := by decide +kernel
