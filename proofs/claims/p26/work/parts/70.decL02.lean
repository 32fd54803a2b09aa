theorem dL_refusesAny_126 : decode cL_refusesAny 126 = .ok (.aload_n 0, 1) := by decide +kernel
theorem dL_refusesAny_127 : decode cL_refusesAny 127 = .ok (.iload_n 3, 1) := by decide +kernel
theorem dL_refusesAny_128 : decode cL_refusesAny 128 = .ok (.iconst 0, 1) := by decide +kernel
theorem dL_refusesAny_129 : decode cL_refusesAny 129 = .ok (.iconst 0, 1) := by decide +kernel
theorem dL_refusesAny_130 : decode cL_refusesAny 130 = .ok (.invokevirtual 35, 3) := by decide +kernel
theorem dL_refusesAny_133 : decode cL_refusesAny 133 = .ok (.iconst (-1), 1) := by decide +kernel
theorem dL_refusesAny_134 : decode cL_refusesAny 134 = .ok (.if_icmp .ne 119, 3) := by decide +kernel
theorem dL_refusesAny_137 : decode cL_refusesAny 137 = .ok (.aload_n 0, 1) := by decide +kernel
theorem dL_refusesAny_138 : decode cL_refusesAny 138 = .ok (.iconst 0, 1) := by decide +kernel
theorem dL_refusesAny_139 : decode cL_refusesAny 139 = .ok (.iload_n 2, 1) := by decide +kernel
theorem dL_refusesAny_140 : decode cL_refusesAny 140 = .ok (.iconst 0, 1) := by decide +kernel
theorem dL_refusesAny_141 : decode cL_refusesAny 141 = .ok (.invokevirtual 35, 3) := by decide +kernel
theorem dL_refusesAny_144 : decode cL_refusesAny 144 = .ok (.iconst (-1), 1) := by decide +kernel
theorem dL_refusesAny_145 : decode cL_refusesAny 145 = .ok (.if_icmp .ne 108, 3) := by decide +kernel
theorem dL_refusesAny_148 : decode cL_refusesAny 148 = .ok (.aload_n 0, 1) := by decide +kernel
theorem dL_refusesAny_149 : decode cL_refusesAny 149 = .ok (.iconst 0, 1) := by decide +kernel
theorem dL_refusesAny_150 : decode cL_refusesAny 150 = .ok (.iconst 0, 1) := by decide +kernel
theorem dL_refusesAny_151 : decode cL_refusesAny 151 = .ok (.iload_n 2, 1) := by decide +kernel
theorem dL_refusesAny_152 : decode cL_refusesAny 152 = .ok (.invokevirtual 35, 3) := by decide +kernel
theorem dL_refusesAny_155 : decode cL_refusesAny 155 = .ok (.iconst (-1), 1) := by decide +kernel
theorem dL_refusesAny_156 : decode cL_refusesAny 156 = .ok (.if_icmp .ne 97, 3) := by decide +kernel
theorem dL_refusesAny_159 : decode cL_refusesAny 159 = .ok (.aload_n 0, 1) := by decide +kernel
theorem dL_refusesAny_160 : decode cL_refusesAny 160 = .ok (.iload 4, 2) := by decide +kernel
theorem dL_refusesAny_162 : decode cL_refusesAny 162 = .ok (.iconst 1, 1) := by decide +kernel
theorem dL_refusesAny_163 : decode cL_refusesAny 163 = .ok (.invokevirtual 39, 3) := by decide +kernel
theorem dL_refusesAny_166 : decode cL_refusesAny 166 = .ok (.iconst (-1), 1) := by decide +kernel
theorem dL_refusesAny_167 : decode cL_refusesAny 167 = .ok (.if_icmp .ne 86, 3) := by decide +kernel
theorem dL_refusesAny_170 : decode cL_refusesAny 170 = .ok (.aload_n 0, 1) := by decide +kernel
theorem dL_refusesAny_171 : decode cL_refusesAny 171 = .ok (.iload_n 1, 1) := by decide +kernel
theorem dL_refusesAny_172 : decode cL_refusesAny 172 = .ok (.ifCond .ne 7, 3) := by decide +kernel
theorem dL_refusesAny_175 : decode cL_refusesAny 175 = .ok (.iconst 2, 1) := by decide +kernel
theorem dL_refusesAny_176 : decode cL_refusesAny 176 = .ok (.goto 5, 3) := by decide +kernel
theorem dL_refusesAny_179 : decode cL_refusesAny 179 = .ok (.bipush 15, 2) := by decide +kernel
theorem dL_refusesAny_181 : decode cL_refusesAny 181 = .ok (.iconst 1, 1) := by decide +kernel
theorem dL_refusesAny_182 : decode cL_refusesAny 182 = .ok (.invokevirtual 39, 3) := by decide +kernel
theorem dL_refusesAny_185 : decode cL_refusesAny 185 = .ok (.iconst (-1), 1) := by decide +kernel
theorem dL_refusesAny_186 : decode cL_refusesAny 186 = .ok (.if_icmp .ne 67, 3) := by decide +kernel
theorem dL_refusesAny_189 : decode cL_refusesAny 189 = .ok (.aload_n 0, 1) := by decide +kernel
theorem dL_refusesAny_190 : decode cL_refusesAny 190 = .ok (.iload_n 1, 1) := by decide +kernel
theorem dL_refusesAny_191 : decode cL_refusesAny 191 = .ok (.ifCond .ne 9, 3) := by decide +kernel
theorem dL_refusesAny_194 : decode cL_refusesAny 194 = .ok (.sipush 4096, 3) := by decide +kernel
theorem dL_refusesAny_197 : decode cL_refusesAny 197 = .ok (.goto 6, 3) := by decide +kernel
theorem dL_refusesAny_200 : decode cL_refusesAny 200 = .ok (.sipush 8191, 3) := by decide +kernel
theorem dL_refusesAny_203 : decode cL_refusesAny 203 = .ok (.iconst 1, 1) := by decide +kernel
theorem dL_refusesAny_204 : decode cL_refusesAny 204 = .ok (.invokevirtual 39, 3) := by decide +kernel
theorem dL_refusesAny_207 : decode cL_refusesAny 207 = .ok (.iconst (-1), 1) := by decide +kernel
theorem dL_refusesAny_208 : decode cL_refusesAny 208 = .ok (.if_icmp .ne 45, 3) := by decide +kernel
theorem dL_refusesAny_211 : decode cL_refusesAny 211 = .ok (.aload_n 0, 1) := by decide +kernel
theorem dL_refusesAny_212 : decode cL_refusesAny 212 = .ok (.iconst (-1), 1) := by decide +kernel
theorem dL_refusesAny_213 : decode cL_refusesAny 213 = .ok (.iconst 0, 1) := by decide +kernel
theorem dL_refusesAny_214 : decode cL_refusesAny 214 = .ok (.invokevirtual 39, 3) := by decide +kernel
theorem dL_refusesAny_217 : decode cL_refusesAny 217 = .ok (.iconst (-1), 1) := by decide +kernel
theorem dL_refusesAny_218 : decode cL_refusesAny 218 = .ok (.if_icmp .ne 35, 3) := by decide +kernel
theorem dL_refusesAny_221 : decode cL_refusesAny 221 = .ok (.aload_n 0, 1) := by decide +kernel
theorem dL_refusesAny_222 : decode cL_refusesAny 222 = .ok (.iload_n 1, 1) := by decide +kernel
theorem dL_refusesAny_223 : decode cL_refusesAny 223 = .ok (.ifCond .ne 9, 3) := by decide +kernel
theorem dL_refusesAny_226 : decode cL_refusesAny 226 = .ok (.sipush 2000, 3) := by decide +kernel
theorem dL_refusesAny_229 : decode cL_refusesAny 229 = .ok (.goto 6, 3) := by decide +kernel
theorem dL_refusesAny_232 : decode cL_refusesAny 232 = .ok (.sipush 2047, 3) := by decide +kernel
theorem dL_refusesAny_235 : decode cL_refusesAny 235 = .ok (.iconst 0, 1) := by decide +kernel
theorem dL_refusesAny_236 : decode cL_refusesAny 236 = .ok (.invokevirtual 39, 3) := by decide +kernel
theorem dL_refusesAny_239 : decode cL_refusesAny 239 = .ok (.bipush (-5), 2) := by decide +kernel
theorem dL_refusesAny_241 : decode cL_refusesAny 241 = .ok (.if_icmp .ne 12, 3) := by decide +kernel
theorem dL_refusesAny_244 : decode cL_refusesAny 244 = .ok (.aload_n 0, 1) := by decide +kernel
theorem dL_refusesAny_245 : decode cL_refusesAny 245 = .ok (.invokevirtual 43, 3) := by decide +kernel
theorem dL_refusesAny_248 : decode cL_refusesAny 248 = .ok (.bipush (-3), 2) := by decide +kernel
theorem dL_refusesAny_250 : decode cL_refusesAny 250 = .ok (.if_icmp .eq 5, 3) := by decide +kernel
theorem dL_refusesAny_253 : decode cL_refusesAny 253 = .ok (.iconst 0, 1) := by decide +kernel
theorem dL_refusesAny_254 : decode cL_refusesAny 254 = .ok (.ireturn, 1) := by decide +kernel
theorem dL_refusesAny_255 : decode cL_refusesAny 255 = .ok (.aload_n 0, 1) := by decide +kernel
theorem dL_refusesAny_256 : decode cL_refusesAny 256 = .ok (.iload_n 3, 1) := by decide +kernel
theorem dL_refusesAny_257 : decode cL_refusesAny 257 = .ok (.bipush 9, 2) := by decide +kernel
theorem dL_refusesAny_259 : decode cL_refusesAny 259 = .ok (.invokevirtual 17, 3) := by decide +kernel
theorem dL_refusesAny_262 : decode cL_refusesAny 262 = .ok (.iconst (-1), 1) := by decide +kernel
theorem dL_refusesAny_263 : decode cL_refusesAny 263 = .ok (.if_icmp .ne 217, 3) := by decide +kernel
theorem dL_refusesAny_266 : decode cL_refusesAny 266 = .ok (.aload_n 0, 1) := by decide +kernel
theorem dL_refusesAny_267 : decode cL_refusesAny 267 = .ok (.iconst 0, 1) := by decide +kernel
theorem dL_refusesAny_268 : decode cL_refusesAny 268 = .ok (.iload_n 1, 1) := by decide +kernel
theorem dL_refusesAny_269 : decode cL_refusesAny 269 = .ok (.ifCond .ne 7, 3) := by decide +kernel
theorem dL_refusesAny_272 : decode cL_refusesAny 272 = .ok (.iconst (-1), 1) := by decide +kernel
theorem dL_refusesAny_273 : decode cL_refusesAny 273 = .ok (.goto 4, 3) := by decide +kernel
theorem dL_refusesAny_276 : decode cL_refusesAny 276 = .ok (.iconst 4, 1) := by decide +kernel
theorem dL_refusesAny_277 : decode cL_refusesAny 277 = .ok (.invokevirtual 17, 3) := by decide +kernel
theorem dL_refusesAny_280 : decode cL_refusesAny 280 = .ok (.bipush (-2), 2) := by decide +kernel
theorem dL_refusesAny_282 : decode cL_refusesAny 282 = .ok (.if_icmp .ne 198, 3) := by decide +kernel
theorem dL_refusesAny_285 : decode cL_refusesAny 285 = .ok (.aload_n 0, 1) := by decide +kernel
theorem dL_refusesAny_286 : decode cL_refusesAny 286 = .ok (.iload_n 2, 1) := by decide +kernel
theorem dL_refusesAny_287 : decode cL_refusesAny 287 = .ok (.iconst 0, 1) := by decide +kernel
theorem dL_refusesAny_288 : decode cL_refusesAny 288 = .ok (.invokevirtual 47, 3) := by decide +kernel
theorem dL_refusesAny_291 : decode cL_refusesAny 291 = .ok (.iconst (-1), 1) := by decide +kernel
theorem dL_refusesAny_292 : decode cL_refusesAny 292 = .ok (.if_icmp .ne 188, 3) := by decide +kernel
theorem dL_refusesAny_295 : decode cL_refusesAny 295 = .ok (.aload_n 0, 1) := by decide +kernel
theorem dL_refusesAny_296 : decode cL_refusesAny 296 = .ok (.iconst 0, 1) := by decide +kernel
theorem dL_refusesAny_297 : decode cL_refusesAny 297 = .ok (.iload_n 2, 1) := by decide +kernel
theorem dL_refusesAny_298 : decode cL_refusesAny 298 = .ok (.invokevirtual 47, 3) := by decide +kernel
theorem dL_refusesAny_301 : decode cL_refusesAny 301 = .ok (.iconst (-1), 1) := by decide +kernel
theorem dL_refusesAny_302 : decode cL_refusesAny 302 = .ok (.if_icmp .ne 178, 3) := by decide +kernel
theorem dL_refusesAny_305 : decode cL_refusesAny 305 = .ok (.aload_n 0, 1) := by decide +kernel
theorem dL_refusesAny_306 : decode cL_refusesAny 306 = .ok (.iload 4, 2) := by decide +kernel
theorem dL_refusesAny_308 : decode cL_refusesAny 308 = .ok (.bipush 9, 2) := by decide +kernel
theorem dL_refusesAny_310 : decode cL_refusesAny 310 = .ok (.invokevirtual 21, 3) := by decide +kernel
theorem dL_refusesAny_313 : decode cL_refusesAny 313 = .ok (.iconst (-1), 1) := by decide +kernel
theorem dL_refusesAny_314 : decode cL_refusesAny 314 = .ok (.if_icmp .ne 166, 3) := by decide +kernel
theorem dL_refusesAny_317 : decode cL_refusesAny 317 = .ok (.aload_n 0, 1) := by decide +kernel
theorem dL_refusesAny_318 : decode cL_refusesAny 318 = .ok (.iload_n 1, 1) := by decide +kernel
theorem dL_refusesAny_319 : decode cL_refusesAny 319 = .ok (.ifCond .ne 7, 3) := by decide +kernel
theorem dL_refusesAny_322 : decode cL_refusesAny 322 = .ok (.iconst 3, 1) := by decide +kernel
theorem dL_refusesAny_323 : decode cL_refusesAny 323 = .ok (.goto 5, 3) := by decide +kernel
theorem dL_refusesAny_326 : decode cL_refusesAny 326 = .ok (.bipush 32, 2) := by decide +kernel
theorem dL_refusesAny_328 : decode cL_refusesAny 328 = .ok (.iconst 0, 1) := by decide +kernel
