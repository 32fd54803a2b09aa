theorem dL_texts_0 : decode cL_texts 0 = .ok (.new 12, 3) := by decide +kernel
theorem dL_texts_3 : decode cL_texts 3 = .ok (.dup, 1) := by decide +kernel
theorem dL_texts_4 : decode cL_texts 4 = .ok (.invokespecial 96, 3) := by decide +kernel
theorem dL_texts_7 : decode cL_texts 7 = .ok (.astore_n 0, 1) := by decide +kernel
theorem dL_texts_8 : decode cL_texts 8 = .ok (.aload_n 0, 1) := by decide +kernel
theorem dL_texts_9 : decode cL_texts 9 = .ok (.invokevirtual 104, 3) := by decide +kernel
theorem dL_texts_12 : decode cL_texts 12 = .ok (.ifCond .ne 301, 3) := by decide +kernel
theorem dL_texts_15 : decode cL_texts 15 = .ok (.aload_n 0, 1) := by decide +kernel
theorem dL_texts_16 : decode cL_texts 16 = .ok (.invokevirtual 43, 3) := by decide +kernel
theorem dL_texts_19 : decode cL_texts 19 = .ok (.bipush (-3), 2) := by decide +kernel
theorem dL_texts_21 : decode cL_texts 21 = .ok (.if_icmp .ne 292, 3) := by decide +kernel
theorem dL_texts_24 : decode cL_texts 24 = .ok (.aload_n 0, 1) := by decide +kernel
theorem dL_texts_25 : decode cL_texts 25 = .ok (.ldc2_w 107, 3) := by decide +kernel
theorem dL_texts_28 : decode cL_texts 28 = .ok (.invokevirtual 80, 3) := by decide +kernel
theorem dL_texts_31 : decode cL_texts 31 = .ok (.ifCond .lt 282, 3) := by decide +kernel
theorem dL_texts_34 : decode cL_texts 34 = .ok (.aload_n 0, 1) := by decide +kernel
theorem dL_texts_35 : decode cL_texts 35 = .ok (.invokevirtual 104, 3) := by decide +kernel
theorem dL_texts_38 : decode cL_texts 38 = .ok (.iconst 1, 1) := by decide +kernel
theorem dL_texts_39 : decode cL_texts 39 = .ok (.if_icmp .ne 274, 3) := by decide +kernel
theorem dL_texts_42 : decode cL_texts 42 = .ok (.aload_n 0, 1) := by decide +kernel
theorem dL_texts_43 : decode cL_texts 43 = .ok (.invokevirtual 109, 3) := by decide +kernel
theorem dL_texts_46 : decode cL_texts 46 = .ok (.iconst 4, 1) := by decide +kernel
theorem dL_texts_47 : decode cL_texts 47 = .ok (.if_icmp .ne 266, 3) := by decide +kernel
theorem dL_texts_50 : decode cL_texts 50 = .ok (.aload_n 0, 1) := by decide +kernel
theorem dL_texts_51 : decode cL_texts 51 = .ok (.ldc2_w 112, 3) := by decide +kernel
theorem dL_texts_54 : decode cL_texts 54 = .ok (.invokevirtual 80, 3) := by decide +kernel
theorem dL_texts_57 : decode cL_texts 57 = .ok (.ifCond .lt 256, 3) := by decide +kernel
theorem dL_texts_60 : decode cL_texts 60 = .ok (.aload_n 0, 1) := by decide +kernel
theorem dL_texts_61 : decode cL_texts 61 = .ok (.invokevirtual 104, 3) := by decide +kernel
theorem dL_texts_64 : decode cL_texts 64 = .ok (.iconst 1, 1) := by decide +kernel
theorem dL_texts_65 : decode cL_texts 65 = .ok (.if_icmp .ne 248, 3) := by decide +kernel
theorem dL_texts_68 : decode cL_texts 68 = .ok (.aload_n 0, 1) := by decide +kernel
theorem dL_texts_69 : decode cL_texts 69 = .ok (.invokevirtual 109, 3) := by decide +kernel
theorem dL_texts_72 : decode cL_texts 72 = .ok (.iconst 4, 1) := by decide +kernel
theorem dL_texts_73 : decode cL_texts 73 = .ok (.if_icmp .ne 240, 3) := by decide +kernel
theorem dL_texts_76 : decode cL_texts 76 = .ok (.aload_n 0, 1) := by decide +kernel
theorem dL_texts_77 : decode cL_texts 77 = .ok (.ldc2_w 114, 3) := by decide +kernel
theorem dL_texts_80 : decode cL_texts 80 = .ok (.invokevirtual 80, 3) := by decide +kernel
theorem dL_texts_83 : decode cL_texts 83 = .ok (.ifCond .lt 230, 3) := by decide +kernel
theorem dL_texts_86 : decode cL_texts 86 = .ok (.aload_n 0, 1) := by decide +kernel
theorem dL_texts_87 : decode cL_texts 87 = .ok (.invokevirtual 104, 3) := by decide +kernel
theorem dL_texts_90 : decode cL_texts 90 = .ok (.iconst 4, 1) := by decide +kernel
theorem dL_texts_91 : decode cL_texts 91 = .ok (.if_icmp .ne 222, 3) := by decide +kernel
theorem dL_texts_94 : decode cL_texts 94 = .ok (.aload_n 0, 1) := by decide +kernel
theorem dL_texts_95 : decode cL_texts 95 = .ok (.invokevirtual 109, 3) := by decide +kernel
theorem dL_texts_98 : decode cL_texts 98 = .ok (.iconst 4, 1) := by decide +kernel
theorem dL_texts_99 : decode cL_texts 99 = .ok (.if_icmp .ne 214, 3) := by decide +kernel
theorem dL_texts_102 : decode cL_texts 102 = .ok (.aload_n 0, 1) := by decide +kernel
theorem dL_texts_103 : decode cL_texts 103 = .ok (.ldc2_w 116, 3) := by decide +kernel
theorem dL_texts_106 : decode cL_texts 106 = .ok (.invokevirtual 80, 3) := by decide +kernel
theorem dL_texts_109 : decode cL_texts 109 = .ok (.ifCond .lt 204, 3) := by decide +kernel
theorem dL_texts_112 : decode cL_texts 112 = .ok (.aload_n 0, 1) := by decide +kernel
theorem dL_texts_113 : decode cL_texts 113 = .ok (.invokevirtual 104, 3) := by decide +kernel
theorem dL_texts_116 : decode cL_texts 116 = .ok (.ifCond .ne 197, 3) := by decide +kernel
theorem dL_texts_119 : decode cL_texts 119 = .ok (.aload_n 0, 1) := by decide +kernel
theorem dL_texts_120 : decode cL_texts 120 = .ok (.invokevirtual 109, 3) := by decide +kernel
theorem dL_texts_123 : decode cL_texts 123 = .ok (.iconst 1, 1) := by decide +kernel
theorem dL_texts_124 : decode cL_texts 124 = .ok (.if_icmp .ne 189, 3) := by decide +kernel
theorem dL_texts_127 : decode cL_texts 127 = .ok (.aload_n 0, 1) := by decide +kernel
theorem dL_texts_128 : decode cL_texts 128 = .ok (.ldc2_w 118, 3) := by decide +kernel
theorem dL_texts_131 : decode cL_texts 131 = .ok (.invokevirtual 80, 3) := by decide +kernel
theorem dL_texts_134 : decode cL_texts 134 = .ok (.ifCond .lt 179, 3) := by decide +kernel
theorem dL_texts_137 : decode cL_texts 137 = .ok (.aload_n 0, 1) := by decide +kernel
theorem dL_texts_138 : decode cL_texts 138 = .ok (.invokevirtual 104, 3) := by decide +kernel
theorem dL_texts_141 : decode cL_texts 141 = .ok (.iconst 1, 1) := by decide +kernel
theorem dL_texts_142 : decode cL_texts 142 = .ok (.if_icmp .ne 171, 3) := by decide +kernel
theorem dL_texts_145 : decode cL_texts 145 = .ok (.aload_n 0, 1) := by decide +kernel
theorem dL_texts_146 : decode cL_texts 146 = .ok (.invokevirtual 109, 3) := by decide +kernel
theorem dL_texts_149 : decode cL_texts 149 = .ok (.iconst 1, 1) := by decide +kernel
theorem dL_texts_150 : decode cL_texts 150 = .ok (.if_icmp .ne 163, 3) := by decide +kernel
theorem dL_texts_153 : decode cL_texts 153 = .ok (.aload_n 0, 1) := by decide +kernel
theorem dL_texts_154 : decode cL_texts 154 = .ok (.ldc2_w 120, 3) := by decide +kernel
theorem dL_texts_157 : decode cL_texts 157 = .ok (.invokevirtual 80, 3) := by decide +kernel
theorem dL_texts_160 : decode cL_texts 160 = .ok (.ifCond .lt 153, 3) := by decide +kernel
theorem dL_texts_163 : decode cL_texts 163 = .ok (.aload_n 0, 1) := by decide +kernel
theorem dL_texts_164 : decode cL_texts 164 = .ok (.invokevirtual 104, 3) := by decide +kernel
theorem dL_texts_167 : decode cL_texts 167 = .ok (.bipush (-6), 2) := by decide +kernel
theorem dL_texts_169 : decode cL_texts 169 = .ok (.if_icmp .ne 144, 3) := by decide +kernel
theorem dL_texts_172 : decode cL_texts 172 = .ok (.aload_n 0, 1) := by decide +kernel
theorem dL_texts_173 : decode cL_texts 173 = .ok (.invokevirtual 109, 3) := by decide +kernel
theorem dL_texts_176 : decode cL_texts 176 = .ok (.iconst 5, 1) := by decide +kernel
theorem dL_texts_177 : decode cL_texts 177 = .ok (.if_icmp .ne 136, 3) := by decide +kernel
theorem dL_texts_180 : decode cL_texts 180 = .ok (.aload_n 0, 1) := by decide +kernel
theorem dL_texts_181 : decode cL_texts 181 = .ok (.ldc2_w 122, 3) := by decide +kernel
theorem dL_texts_184 : decode cL_texts 184 = .ok (.invokevirtual 80, 3) := by decide +kernel
theorem dL_texts_187 : decode cL_texts 187 = .ok (.ifCond .lt 126, 3) := by decide +kernel
theorem dL_texts_190 : decode cL_texts 190 = .ok (.aload_n 0, 1) := by decide +kernel
theorem dL_texts_191 : decode cL_texts 191 = .ok (.invokevirtual 104, 3) := by decide +kernel
theorem dL_texts_194 : decode cL_texts 194 = .ok (.bipush (-6), 2) := by decide +kernel
theorem dL_texts_196 : decode cL_texts 196 = .ok (.if_icmp .ne 117, 3) := by decide +kernel
theorem dL_texts_199 : decode cL_texts 199 = .ok (.aload_n 0, 1) := by decide +kernel
theorem dL_texts_200 : decode cL_texts 200 = .ok (.invokevirtual 109, 3) := by decide +kernel
theorem dL_texts_203 : decode cL_texts 203 = .ok (.bipush 7, 2) := by decide +kernel
theorem dL_texts_205 : decode cL_texts 205 = .ok (.if_icmp .ne 108, 3) := by decide +kernel
theorem dL_texts_208 : decode cL_texts 208 = .ok (.aload_n 0, 1) := by decide +kernel
theorem dL_texts_209 : decode cL_texts 209 = .ok (.ldc2_w 124, 3) := by decide +kernel
theorem dL_texts_212 : decode cL_texts 212 = .ok (.invokevirtual 80, 3) := by decide +kernel
theorem dL_texts_215 : decode cL_texts 215 = .ok (.ifCond .lt 98, 3) := by decide +kernel
theorem dL_texts_218 : decode cL_texts 218 = .ok (.aload_n 0, 1) := by decide +kernel
theorem dL_texts_219 : decode cL_texts 219 = .ok (.invokevirtual 104, 3) := by decide +kernel
theorem dL_texts_222 : decode cL_texts 222 = .ok (.iconst 3, 1) := by decide +kernel
theorem dL_texts_223 : decode cL_texts 223 = .ok (.if_icmp .ne 90, 3) := by decide +kernel
theorem dL_texts_226 : decode cL_texts 226 = .ok (.aload_n 0, 1) := by decide +kernel
theorem dL_texts_227 : decode cL_texts 227 = .ok (.invokevirtual 109, 3) := by decide +kernel
theorem dL_texts_230 : decode cL_texts 230 = .ok (.iconst 5, 1) := by decide +kernel
theorem dL_texts_231 : decode cL_texts 231 = .ok (.if_icmp .ne 82, 3) := by decide +kernel
theorem dL_texts_234 : decode cL_texts 234 = .ok (.aload_n 0, 1) := by decide +kernel
theorem dL_texts_235 : decode cL_texts 235 = .ok (.ldc2_w 126, 3) := by decide +kernel
theorem dL_texts_238 : decode cL_texts 238 = .ok (.invokevirtual 80, 3) := by decide +kernel
theorem dL_texts_241 : decode cL_texts 241 = .ok (.ifCond .lt 72, 3) := by decide +kernel
