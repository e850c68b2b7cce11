theorem dX4_isGood_71 : decode cX4_isGood 71 = .ok (.iload 7, 2) := by decide +kernel
theorem dX4_isGood_73 : decode cX4_isGood 73 = .ok (.bipush 64, 2) := by decide +kernel
theorem dX4_isGood_75 : decode cX4_isGood 75 = .ok (.if_icmp .gt 26, 3) := by decide +kernel
theorem dX4_isGood_78 : decode cX4_isGood 78 = .ok (.iload_n 3, 1) := by decide +kernel
theorem dX4_isGood_79 : decode cX4_isGood 79 = .ok (.bipush 11, 2) := by decide +kernel
theorem dX4_isGood_81 : decode cX4_isGood 81 = .ok (.iadd, 1) := by decide +kernel
theorem dX4_isGood_82 : decode cX4_isGood 82 = .ok (.iload 7, 2) := by decide +kernel
theorem dX4_isGood_84 : decode cX4_isGood 84 = .ok (.iadd, 1) := by decide +kernel
theorem dX4_isGood_85 : decode cX4_isGood 85 = .ok (.aload_n 0, 1) := by decide +kernel
theorem dX4_isGood_86 : decode cX4_isGood 86 = .ok (.getfield 13, 3) := by decide +kernel
theorem dX4_isGood_89 : decode cX4_isGood 89 = .ok (.iload_n 1, 1) := by decide +kernel
theorem dX4_isGood_90 : decode cX4_isGood 90 = .ok (.iaload, 1) := by decide +kernel
theorem dX4_isGood_91 : decode cX4_isGood 91 = .ok (.if_icmp .gt 10, 3) := by decide +kernel
theorem dX4_isGood_94 : decode cX4_isGood 94 = .ok (.iload 4, 2) := by decide +kernel
theorem dX4_isGood_96 : decode cX4_isGood 96 = .ok (.bipush 16, 2) := by decide +kernel
theorem dX4_isGood_98 : decode cX4_isGood 98 = .ok (.if_icmp .ne 5, 3) := by decide +kernel
theorem dX4_isGood_101 : decode cX4_isGood 101 = .ok (.iconst 0, 1) := by decide +kernel
theorem dX4_isGood_102 : decode cX4_isGood 102 = .ok (.ireturn, 1) := by decide +kernel
theorem dX4_isGood_103 : decode cX4_isGood 103 = .ok (.aload_n 0, 1) := by decide +kernel
theorem dX4_isGood_104 : decode cX4_isGood 104 = .ok (.iload_n 1, 1) := by decide +kernel
theorem dX4_isGood_105 : decode cX4_isGood 105 = .ok (.iload_n 3, 1) := by decide +kernel
theorem dX4_isGood_106 : decode cX4_isGood 106 = .ok (.iconst 1, 1) := by decide +kernel
theorem dX4_isGood_107 : decode cX4_isGood 107 = .ok (.iadd, 1) := by decide +kernel
theorem dX4_isGood_108 : decode cX4_isGood 108 = .ok (.iconst 4, 1) := by decide +kernel
theorem dX4_isGood_109 : decode cX4_isGood 109 = .ok (.invokevirtual 97, 3) := by decide +kernel
theorem dX4_isGood_112 : decode cX4_isGood 112 = .ok (.istore 8, 2) := by decide +kernel
theorem dX4_isGood_114 : decode cX4_isGood 114 = .ok (.aload_n 0, 1) := by decide +kernel
theorem dX4_isGood_115 : decode cX4_isGood 115 = .ok (.iload_n 1, 1) := by decide +kernel
theorem dX4_isGood_116 : decode cX4_isGood 116 = .ok (.iload_n 3, 1) := by decide +kernel
theorem dX4_isGood_117 : decode cX4_isGood 117 = .ok (.iload_n 3, 1) := by decide +kernel
theorem dX4_isGood_118 : decode cX4_isGood 118 = .ok (.bipush 7, 2) := by decide +kernel
theorem dX4_isGood_120 : decode cX4_isGood 120 = .ok (.iadd, 1) := by decide +kernel
theorem dX4_isGood_121 : decode cX4_isGood 121 = .ok (.iload 7, 2) := by decide +kernel
theorem dX4_isGood_123 : decode cX4_isGood 123 = .ok (.iadd, 1) := by decide +kernel
theorem dX4_isGood_124 : decode cX4_isGood 124 = .ok (.iconst 0, 1) := by decide +kernel
theorem dX4_isGood_125 : decode cX4_isGood 125 = .ok (.invokevirtual 101, 3) := by decide +kernel
theorem dX4_isGood_128 : decode cX4_isGood 128 = .ok (.istore 6, 2) := by decide +kernel
theorem dX4_isGood_130 : decode cX4_isGood 130 = .ok (.iload 6, 2) := by decide +kernel
theorem dX4_isGood_132 : decode cX4_isGood 132 = .ok (.aload_n 0, 1) := by decide +kernel
theorem dX4_isGood_133 : decode cX4_isGood 133 = .ok (.iload_n 1, 1) := by decide +kernel
theorem dX4_isGood_134 : decode cX4_isGood 134 = .ok (.iload_n 3, 1) := by decide +kernel
theorem dX4_isGood_135 : decode cX4_isGood 135 = .ok (.bipush 7, 2) := by decide +kernel
theorem dX4_isGood_137 : decode cX4_isGood 137 = .ok (.iadd, 1) := by decide +kernel
theorem dX4_isGood_138 : decode cX4_isGood 138 = .ok (.iload 7, 2) := by decide +kernel
theorem dX4_isGood_140 : decode cX4_isGood 140 = .ok (.iadd, 1) := by decide +kernel
theorem dX4_isGood_141 : decode cX4_isGood 141 = .ok (.iconst 4, 1) := by decide +kernel
theorem dX4_isGood_142 : decode cX4_isGood 142 = .ok (.invokevirtual 97, 3) := by decide +kernel
theorem dX4_isGood_145 : decode cX4_isGood 145 = .ok (.if_icmp .ne 39, 3) := by decide +kernel
theorem dX4_isGood_148 : decode cX4_isGood 148 = .ok (.aload_n 0, 1) := by decide +kernel
theorem dX4_isGood_149 : decode cX4_isGood 149 = .ok (.iload_n 1, 1) := by decide +kernel
theorem dX4_isGood_150 : decode cX4_isGood 150 = .ok (.iload_n 3, 1) := by decide +kernel
theorem dX4_isGood_151 : decode cX4_isGood 151 = .ok (.iconst 5, 1) := by decide +kernel
theorem dX4_isGood_152 : decode cX4_isGood 152 = .ok (.iadd, 1) := by decide +kernel
theorem dX4_isGood_153 : decode cX4_isGood 153 = .ok (.iload 7, 2) := by decide +kernel
theorem dX4_isGood_155 : decode cX4_isGood 155 = .ok (.iadd, 1) := by decide +kernel
theorem dX4_isGood_156 : decode cX4_isGood 156 = .ok (.iconst 2, 1) := by decide +kernel
theorem dX4_isGood_157 : decode cX4_isGood 157 = .ok (.invokevirtual 97, 3) := by decide +kernel
theorem dX4_isGood_160 : decode cX4_isGood 160 = .ok (.aload_n 0, 1) := by decide +kernel
theorem dX4_isGood_161 : decode cX4_isGood 161 = .ok (.getfield 62, 3) := by decide +kernel
theorem dX4_isGood_164 : decode cX4_isGood 164 = .ok (.iload 4, 2) := by decide +kernel
theorem dX4_isGood_166 : decode cX4_isGood 166 = .ok (.iadd, 1) := by decide +kernel
theorem dX4_isGood_167 : decode cX4_isGood 167 = .ok (.if_icmp .ne 17, 3) := by decide +kernel
theorem dX4_isGood_170 : decode cX4_isGood 170 = .ok (.iload 8, 2) := by decide +kernel
theorem dX4_isGood_172 : decode cX4_isGood 172 = .ok (.iload 5, 2) := by decide +kernel
theorem dX4_isGood_174 : decode cX4_isGood 174 = .ok (.if_icmp .lt 10, 3) := by decide +kernel
theorem dX4_isGood_177 : decode cX4_isGood 177 = .ok (.iload 8, 2) := by decide +kernel
theorem dX4_isGood_179 : decode cX4_isGood 179 = .ok (.ldc 65, 2) := by decide +kernel
theorem dX4_isGood_181 : decode cX4_isGood 181 = .ok (.if_icmp .le 5, 3) := by decide +kernel
theorem dX4_isGood_184 : decode cX4_isGood 184 = .ok (.iconst 0, 1) := by decide +kernel
theorem dX4_isGood_185 : decode cX4_isGood 185 = .ok (.ireturn, 1) := by decide +kernel
theorem dX4_isGood_186 : decode cX4_isGood 186 = .ok (.iload 8, 2) := by decide +kernel
theorem dX4_isGood_188 : decode cX4_isGood 188 = .ok (.istore 5, 2) := by decide +kernel
theorem dX4_isGood_190 : decode cX4_isGood 190 = .ok (.iinc 4 1, 3) := by decide +kernel
theorem dX4_isGood_193 : decode cX4_isGood 193 = .ok (.iload_n 3, 1) := by decide +kernel
theorem dX4_isGood_194 : decode cX4_isGood 194 = .ok (.bipush 11, 2) := by decide +kernel
theorem dX4_isGood_196 : decode cX4_isGood 196 = .ok (.iload 7, 2) := by decide +kernel
theorem dX4_isGood_198 : decode cX4_isGood 198 = .ok (.iadd, 1) := by decide +kernel
theorem dX4_isGood_199 : decode cX4_isGood 199 = .ok (.iadd, 1) := by decide +kernel
theorem dX4_isGood_200 : decode cX4_isGood 200 = .ok (.istore_n 3, 1) := by decide +kernel
theorem dX4_isGood_201 : decode cX4_isGood 201 = .ok (.goto (-169), 3) := by decide +kernel
theorem dX4_isGood_204 : decode cX4_isGood 204 = .ok (.iload 4, 2) := by decide +kernel
theorem dX4_isGood_206 : decode cX4_isGood 206 = .ok (.ifCond .eq 71, 3) := by decide +kernel
theorem dX4_isGood_209 : decode cX4_isGood 209 = .ok (.iload_n 3, 1) := by decide +kernel
theorem dX4_isGood_210 : decode cX4_isGood 210 = .ok (.bipush 6, 2) := by decide +kernel
theorem dX4_isGood_212 : decode cX4_isGood 212 = .ok (.iadd, 1) := by decide +kernel
theorem dX4_isGood_213 : decode cX4_isGood 213 = .ok (.aload_n 0, 1) := by decide +kernel
theorem dX4_isGood_214 : decode cX4_isGood 214 = .ok (.getfield 13, 3) := by decide +kernel
theorem dX4_isGood_217 : decode cX4_isGood 217 = .ok (.iload_n 1, 1) := by decide +kernel
theorem dX4_isGood_218 : decode cX4_isGood 218 = .ok (.iaload, 1) := by decide +kernel
theorem dX4_isGood_219 : decode cX4_isGood 219 = .ok (.if_icmp .gt 58, 3) := by decide +kernel
theorem dX4_isGood_222 : decode cX4_isGood 222 = .ok (.aload_n 0, 1) := by decide +kernel
theorem dX4_isGood_223 : decode cX4_isGood 223 = .ok (.getfield 9, 3) := by decide +kernel
theorem dX4_isGood_226 : decode cX4_isGood 226 = .ok (.iload_n 1, 1) := by decide +kernel
theorem dX4_isGood_227 : decode cX4_isGood 227 = .ok (.sipush 8192, 3) := by decide +kernel
theorem dX4_isGood_230 : decode cX4_isGood 230 = .ok (.imul, 1) := by decide +kernel
theorem dX4_isGood_231 : decode cX4_isGood 231 = .ok (.iload_n 3, 1) := by decide +kernel
theorem dX4_isGood_232 : decode cX4_isGood 232 = .ok (.iadd, 1) := by decide +kernel
theorem dX4_isGood_233 : decode cX4_isGood 233 = .ok (.iconst 1, 1) := by decide +kernel
theorem dX4_isGood_234 : decode cX4_isGood 234 = .ok (.iadd, 1) := by decide +kernel
theorem dX4_isGood_235 : decode cX4_isGood 235 = .ok (.iaload, 1) := by decide +kernel
theorem dX4_isGood_236 : decode cX4_isGood 236 = .ok (.iload 4, 2) := by decide +kernel
theorem dX4_isGood_238 : decode cX4_isGood 238 = .ok (.if_icmp .ne 39, 3) := by decide +kernel
theorem dX4_isGood_241 : decode cX4_isGood 241 = .ok (.aload_n 0, 1) := by decide +kernel
theorem dX4_isGood_242 : decode cX4_isGood 242 = .ok (.iload_n 1, 1) := by decide +kernel
theorem dX4_isGood_243 : decode cX4_isGood 243 = .ok (.iload_n 3, 1) := by decide +kernel
theorem dX4_isGood_244 : decode cX4_isGood 244 = .ok (.iload_n 3, 1) := by decide +kernel
theorem dX4_isGood_245 : decode cX4_isGood 245 = .ok (.iconst 2, 1) := by decide +kernel
theorem dX4_isGood_246 : decode cX4_isGood 246 = .ok (.iadd, 1) := by decide +kernel
theorem dX4_isGood_247 : decode cX4_isGood 247 = .ok (.iload 6, 2) := by decide +kernel
theorem dX4_isGood_249 : decode cX4_isGood 249 = .ok (.invokevirtual 101, 3) := by decide +kernel
theorem dX4_isGood_252 : decode cX4_isGood 252 = .ok (.aload_n 0, 1) := by decide +kernel
theorem dX4_isGood_253 : decode cX4_isGood 253 = .ok (.iload_n 1, 1) := by decide +kernel
theorem dX4_isGood_254 : decode cX4_isGood 254 = .ok (.iload_n 3, 1) := by decide +kernel
theorem dX4_isGood_255 : decode cX4_isGood 255 = .ok (.iconst 2, 1) := by decide +kernel
theorem dX4_isGood_256 : decode cX4_isGood 256 = .ok (.iadd, 1) := by decide +kernel
theorem dX4_isGood_257 : decode cX4_isGood 257 = .ok (.iconst 4, 1) := by decide +kernel
theorem dX4_isGood_258 : decode cX4_isGood 258 = .ok (.invokevirtual 97, 3) := by decide +kernel
theorem dX4_isGood_261 : decode cX4_isGood 261 = .ok (.if_icmp .ne 16, 3) := by decide +kernel
theorem dX4_isGood_264 : decode cX4_isGood 264 = .ok (.aload_n 0, 1) := by decide +kernel
theorem dX4_isGood_265 : decode cX4_isGood 265 = .ok (.getfield 62, 3) := by decide +kernel
theorem dX4_isGood_268 : decode cX4_isGood 268 = .ok (.iload 4, 2) := by decide +kernel
theorem dX4_isGood_270 : decode cX4_isGood 270 = .ok (.iadd, 1) := by decide +kernel
theorem dX4_isGood_271 : decode cX4_isGood 271 = .ok (.sipush 600, 3) := by decide +kernel
theorem dX4_isGood_274 : decode cX4_isGood 274 = .ok (.if_icmp .le 5, 3) := by decide +kernel
theorem dX4_isGood_277 : decode cX4_isGood 277 = .ok (.iconst 0, 1) := by decide +kernel
theorem dX4_isGood_278 : decode cX4_isGood 278 = .ok (.ireturn, 1) := by decide +kernel
theorem dX4_isGood_279 : decode cX4_isGood 279 = .ok (.aload_n 0, 1) := by decide +kernel
theorem dX4_isGood_280 : decode cX4_isGood 280 = .ok (.iload 4, 2) := by decide +kernel
theorem dX4_isGood_282 : decode cX4_isGood 282 = .ok (.putfield 105, 3) := by decide +kernel
theorem dX4_isGood_285 : decode cX4_isGood 285 = .ok (.aload_n 0, 1) := by decide +kernel
theorem dX4_isGood_286 : decode cX4_isGood 286 = .ok (.iload_n 3, 1) := by decide +kernel
theorem dX4_isGood_287 : decode cX4_isGood 287 = .ok (.bipush 6, 2) := by decide +kernel
theorem dX4_isGood_289 : decode cX4_isGood 289 = .ok (.iadd, 1) := by decide +kernel
theorem dX4_isGood_290 : decode cX4_isGood 290 = .ok (.iload_n 2, 1) := by decide +kernel
theorem dX4_isGood_291 : decode cX4_isGood 291 = .ok (.isub, 1) := by decide +kernel
theorem dX4_isGood_292 : decode cX4_isGood 292 = .ok (.putfield 108, 3) := by decide +kernel
theorem dX4_isGood_295 : decode cX4_isGood 295 = .ok (.iconst 1, 1) := by decide +kernel
theorem dX4_isGood_296 : decode cX4_isGood 296 = .ok (.ireturn, 1) := by decide +kernel
theorem dX4_take_0 : decode cX4_take 0 = .ok (.iload_n 2, 1) := by decide +kernel
theorem dX4_take_1 : decode cX4_take 1 = .ok (.istore_n 3, 1) := by decide +kernel
theorem dX4_take_2 : decode cX4_take 2 = .ok (.iconst 0, 1) := by decide +kernel
theorem dX4_take_3 : decode cX4_take 3 = .ok (.istore 4, 2) := by decide +kernel
theorem dX4_take_5 : decode cX4_take 5 = .ok (.iload 4, 2) := by decide +kernel
theorem dX4_take_7 : decode cX4_take 7 = .ok (.aload_n 0, 1) := by decide +kernel
theorem dX4_take_8 : decode cX4_take 8 = .ok (.getfield 105, 3) := by decide +kernel
theorem dX4_take_11 : decode cX4_take 11 = .ok (.if_icmp .ge 118, 3) := by decide +kernel
theorem dX4_take_14 : decode cX4_take 14 = .ok (.aload_n 0, 1) := by decide +kernel
theorem dX4_take_15 : decode cX4_take 15 = .ok (.getfield 9, 3) := by decide +kernel
theorem dX4_take_18 : decode cX4_take 18 = .ok (.iload_n 1, 1) := by decide +kernel
theorem dX4_take_19 : decode cX4_take 19 = .ok (.sipush 8192, 3) := by decide +kernel
theorem dX4_take_22 : decode cX4_take 22 = .ok (.imul, 1) := by decide +kernel
theorem dX4_take_23 : decode cX4_take 23 = .ok (.iload_n 3, 1) := by decide +kernel
theorem dX4_take_24 : decode cX4_take 24 = .ok (.iadd, 1) := by decide +kernel
theorem dX4_take_25 : decode cX4_take 25 = .ok (.iaload, 1) := by decide +kernel
theorem dX4_take_26 : decode cX4_take 26 = .ok (.istore 5, 2) := by decide +kernel
theorem dX4_take_28 : decode cX4_take 28 = .ok (.aload_n 0, 1) := by decide +kernel
theorem dX4_take_29 : decode cX4_take 29 = .ok (.getfield 16, 3) := by decide +kernel
theorem dX4_take_32 : decode cX4_take 32 = .ok (.aload_n 0, 1) := by decide +kernel
theorem dX4_take_33 : decode cX4_take 33 = .ok (.getfield 62, 3) := by decide +kernel
theorem dX4_take_36 : decode cX4_take 36 = .ok (.aload_n 0, 1) := by decide +kernel
theorem dX4_take_37 : decode cX4_take 37 = .ok (.iload_n 1, 1) := by decide +kernel
theorem dX4_take_38 : decode cX4_take 38 = .ok (.iload_n 3, 1) := by decide +kernel
theorem dX4_take_39 : decode cX4_take 39 = .ok (.iconst 1, 1) := by decide +kernel
theorem dX4_take_40 : decode cX4_take 40 = .ok (.iadd, 1) := by decide +kernel
theorem dX4_take_41 : decode cX4_take 41 = .ok (.iconst 4, 1) := by decide +kernel
theorem dX4_take_42 : decode cX4_take 42 = .ok (.invokevirtual 97, 3) := by decide +kernel
theorem dX4_take_45 : decode cX4_take 45 = .ok (.iastore, 1) := by decide +kernel
theorem dX4_take_46 : decode cX4_take 46 = .ok (.aload_n 0, 1) := by decide +kernel
theorem dX4_take_47 : decode cX4_take 47 = .ok (.getfield 19, 3) := by decide +kernel
theorem dX4_take_50 : decode cX4_take 50 = .ok (.aload_n 0, 1) := by decide +kernel
theorem dX4_take_51 : decode cX4_take 51 = .ok (.getfield 62, 3) := by decide +kernel
theorem dX4_take_54 : decode cX4_take 54 = .ok (.iload 5, 2) := by decide +kernel
theorem dX4_take_56 : decode cX4_take 56 = .ok (.iastore, 1) := by decide +kernel
theorem dX4_take_57 : decode cX4_take 57 = .ok (.iconst 0, 1) := by decide +kernel
theorem dX4_take_58 : decode cX4_take 58 = .ok (.istore 6, 2) := by decide +kernel
theorem dX4_take_60 : decode cX4_take 60 = .ok (.iload 6, 2) := by decide +kernel
theorem dX4_take_62 : decode cX4_take 62 = .ok (.iload 5, 2) := by decide +kernel
theorem dX4_take_64 : decode cX4_take 64 = .ok (.if_icmp .ge 41, 3) := by decide +kernel
theorem dX4_take_67 : decode cX4_take 67 = .ok (.aload_n 0, 1) := by decide +kernel
theorem dX4_take_68 : decode cX4_take 68 = .ok (.getfield 23, 3) := by decide +kernel
theorem dX4_take_71 : decode cX4_take 71 = .ok (.aload_n 0, 1) := by decide +kernel
theorem dX4_take_72 : decode cX4_take 72 = .ok (.getfield 62, 3) := by decide +kernel
theorem dX4_take_75 : decode cX4_take 75 = .ok (.bipush 64, 2) := by decide +kernel
theorem dX4_take_77 : decode cX4_take 77 = .ok (.imul, 1) := by decide +kernel
theorem dX4_take_78 : decode cX4_take 78 = .ok (.iload 6, 2) := by decide +kernel
theorem dX4_take_80 : decode cX4_take 80 = .ok (.iadd, 1) := by decide +kernel
theorem dX4_take_81 : decode cX4_take 81 = .ok (.aload_n 0, 1) := by decide +kernel
theorem dX4_take_82 : decode cX4_take 82 = .ok (.getfield 9, 3) := by decide +kernel
theorem dX4_take_85 : decode cX4_take 85 = .ok (.iload_n 1, 1) := by decide +kernel
theorem dX4_take_86 : decode cX4_take 86 = .ok (.sipush 8192, 3) := by decide +kernel
theorem dX4_take_89 : decode cX4_take 89 = .ok (.imul, 1) := by decide +kernel
theorem dX4_take_90 : decode cX4_take 90 = .ok (.iload_n 3, 1) := by decide +kernel
theorem dX4_take_91 : decode cX4_take 91 = .ok (.iadd, 1) := by decide +kernel
theorem dX4_take_92 : decode cX4_take 92 = .ok (.iconst 5, 1) := by decide +kernel
theorem dX4_take_93 : decode cX4_take 93 = .ok (.iadd, 1) := by decide +kernel
theorem dX4_take_94 : decode cX4_take 94 = .ok (.iload 6, 2) := by decide +kernel
theorem dX4_take_96 : decode cX4_take 96 = .ok (.iadd, 1) := by decide +kernel
theorem dX4_take_97 : decode cX4_take 97 = .ok (.iaload, 1) := by decide +kernel
theorem dX4_take_98 : decode cX4_take 98 = .ok (.iastore, 1) := by decide +kernel
theorem dX4_take_99 : decode cX4_take 99 = .ok (.iinc 6 1, 3) := by decide +kernel
theorem dX4_take_102 : decode cX4_take 102 = .ok (.goto (-42), 3) := by decide +kernel
theorem dX4_take_105 : decode cX4_take 105 = .ok (.aload_n 0, 1) := by decide +kernel
theorem dX4_take_106 : decode cX4_take 106 = .ok (.dup, 1) := by decide +kernel
theorem dX4_take_107 : decode cX4_take 107 = .ok (.getfield 62, 3) := by decide +kernel
theorem dX4_take_110 : decode cX4_take 110 = .ok (.iconst 1, 1) := by decide +kernel
theorem dX4_take_111 : decode cX4_take 111 = .ok (.iadd, 1) := by decide +kernel
theorem dX4_take_112 : decode cX4_take 112 = .ok (.putfield 62, 3) := by decide +kernel
theorem dX4_take_115 : decode cX4_take 115 = .ok (.iload_n 3, 1) := by decide +kernel
theorem dX4_take_116 : decode cX4_take 116 = .ok (.bipush 11, 2) := by decide +kernel
theorem dX4_take_118 : decode cX4_take 118 = .ok (.iload 5, 2) := by decide +kernel
theorem dX4_take_120 : decode cX4_take 120 = .ok (.iadd, 1) := by decide +kernel
theorem dX4_take_121 : decode cX4_take 121 = .ok (.iadd, 1) := by decide +kernel
theorem dX4_take_122 : decode cX4_take 122 = .ok (.istore_n 3, 1) := by decide +kernel
theorem dX4_take_123 : decode cX4_take 123 = .ok (.iinc 4 1, 3) := by decide +kernel
theorem dX4_take_126 : decode cX4_take 126 = .ok (.goto (-121), 3) := by decide +kernel
theorem dX4_take_129 : decode cX4_take 129 = .ok (.iload_n 2, 1) := by decide +kernel
theorem dX4_take_130 : decode cX4_take 130 = .ok (.istore 4, 2) := by decide +kernel
theorem dX4_take_132 : decode cX4_take 132 = .ok (.iload 4, 2) := by decide +kernel
theorem dX4_take_134 : decode cX4_take 134 = .ok (.iload_n 2, 1) := by decide +kernel
theorem dX4_take_135 : decode cX4_take 135 = .ok (.aload_n 0, 1) := by decide +kernel
theorem dX4_take_136 : decode cX4_take 136 = .ok (.getfield 108, 3) := by decide +kernel
theorem dX4_take_139 : decode cX4_take 139 = .ok (.iadd, 1) := by decide +kernel
theorem dX4_take_140 : decode cX4_take 140 = .ok (.if_icmp .ge 37, 3) := by decide +kernel
theorem dX4_take_143 : decode cX4_take 143 = .ok (.aload_n 0, 1) := by decide +kernel
theorem dX4_take_144 : decode cX4_take 144 = .ok (.getfield 9, 3) := by decide +kernel
theorem dX4_take_147 : decode cX4_take 147 = .ok (.iconst 1, 1) := by decide +kernel
theorem dX4_take_148 : decode cX4_take 148 = .ok (.iload_n 1, 1) := by decide +kernel
theorem dX4_take_149 : decode cX4_take 149 = .ok (.isub, 1) := by decide +kernel
theorem dX4_take_150 : decode cX4_take 150 = .ok (.sipush 8192, 3) := by decide +kernel
theorem dX4_take_153 : decode cX4_take 153 = .ok (.imul, 1) := by decide +kernel
theorem dX4_take_154 : decode cX4_take 154 = .ok (.iload 4, 2) := by decide +kernel
theorem dX4_take_156 : decode cX4_take 156 = .ok (.iadd, 1) := by decide +kernel
theorem dX4_take_157 : decode cX4_take 157 = .ok (.aload_n 0, 1) := by decide +kernel
theorem dX4_take_158 : decode cX4_take 158 = .ok (.getfield 9, 3) := by decide +kernel
theorem dX4_take_161 : decode cX4_take 161 = .ok (.iload_n 1, 1) := by decide +kernel
theorem dX4_take_162 : decode cX4_take 162 = .ok (.sipush 8192, 3) := by decide +kernel
theorem dX4_take_165 : decode cX4_take 165 = .ok (.imul, 1) := by decide +kernel
theorem dX4_take_166 : decode cX4_take 166 = .ok (.iload 4, 2) := by decide +kernel
theorem dX4_take_168 : decode cX4_take 168 = .ok (.iadd, 1) := by decide +kernel
theorem dX4_take_169 : decode cX4_take 169 = .ok (.iaload, 1) := by decide +kernel
theorem dX4_take_170 : decode cX4_take 170 = .ok (.iastore, 1) := by decide +kernel
theorem dX4_take_171 : decode cX4_take 171 = .ok (.iinc 4 1, 3) := by decide +kernel
theorem dX4_take_174 : decode cX4_take 174 = .ok (.goto (-42), 3) := by decide +kernel
theorem dX4_take_177 : decode cX4_take 177 = .ok (.aload_n 0, 1) := by decide +kernel
theorem dX4_take_178 : decode cX4_take 178 = .ok (.getfield 26, 3) := by decide +kernel
theorem dX4_take_181 : decode cX4_take 181 = .ok (.aload_n 0, 1) := by decide +kernel
theorem dX4_take_182 : decode cX4_take 182 = .ok (.getfield 84, 3) := by decide +kernel
theorem dX4_take_185 : decode cX4_take 185 = .ok (.aload_n 0, 1) := by decide +kernel
theorem dX4_take_186 : decode cX4_take 186 = .ok (.getfield 105, 3) := by decide +kernel
theorem dX4_take_189 : decode cX4_take 189 = .ok (.iastore, 1) := by decide +kernel
theorem dX4_take_190 : decode cX4_take 190 = .ok (.aload_n 0, 1) := by decide +kernel
theorem dX4_take_191 : decode cX4_take 191 = .ok (.getfield 29, 3) := by decide +kernel
theorem dX4_take_194 : decode cX4_take 194 = .ok (.aload_n 0, 1) := by decide +kernel
theorem dX4_take_195 : decode cX4_take 195 = .ok (.getfield 84, 3) := by decide +kernel
theorem dX4_take_198 : decode cX4_take 198 = .ok (.aload_n 0, 1) := by decide +kernel
theorem dX4_take_199 : decode cX4_take 199 = .ok (.getfield 108, 3) := by decide +kernel
theorem dX4_take_202 : decode cX4_take 202 = .ok (.iastore, 1) := by decide +kernel
theorem dX4_take_203 : decode cX4_take 203 = .ok (.aload_n 0, 1) := by decide +kernel
theorem dX4_take_204 : decode cX4_take 204 = .ok (.dup, 1) := by decide +kernel
theorem dX4_take_205 : decode cX4_take 205 = .ok (.getfield 84, 3) := by decide +kernel
theorem dX4_take_208 : decode cX4_take 208 = .ok (.iconst 1, 1) := by decide +kernel
theorem dX4_take_209 : decode cX4_take 209 = .ok (.iadd, 1) := by decide +kernel
theorem dX4_take_210 : decode cX4_take 210 = .ok (.putfield 84, 3) := by decide +kernel
theorem dX4_take_213 : decode cX4_take 213 = .ok (.return_, 1) := by decide +kernel
theorem dX4_reopen_0 : decode cX4_reopen 0 = .ok (.aload_n 0, 1) := by decide +kernel
theorem dX4_reopen_1 : decode cX4_reopen 1 = .ok (.iconst 0, 1) := by decide +kernel
theorem dX4_reopen_2 : decode cX4_reopen 2 = .ok (.putfield 48, 3) := by decide +kernel
theorem dX4_reopen_5 : decode cX4_reopen 5 = .ok (.aload_n 0, 1) := by decide +kernel
theorem dX4_reopen_6 : decode cX4_reopen 6 = .ok (.invokevirtual 90, 3) := by decide +kernel
theorem dX4_reopen_9 : decode cX4_reopen 9 = .ok (.aload_n 0, 1) := by decide +kernel
theorem dX4_reopen_10 : decode cX4_reopen 10 = .ok (.iconst 0, 1) := by decide +kernel
theorem dX4_reopen_11 : decode cX4_reopen 11 = .ok (.putfield 52, 3) := by decide +kernel
theorem dX4_reopen_14 : decode cX4_reopen 14 = .ok (.aload_n 0, 1) := by decide +kernel
theorem dX4_reopen_15 : decode cX4_reopen 15 = .ok (.iconst 0, 1) := by decide +kernel
theorem dX4_reopen_16 : decode cX4_reopen 16 = .ok (.putfield 111, 3) := by decide +kernel
theorem dX4_reopen_19 : decode cX4_reopen 19 = .ok (.iconst 0, 1) := by decide +kernel
theorem dX4_reopen_20 : decode cX4_reopen 20 = .ok (.istore_n 1, 1) := by decide +kernel
theorem dX4_reopen_21 : decode cX4_reopen 21 = .ok (.iconst 1, 1) := by decide +kernel
theorem dX4_reopen_22 : decode cX4_reopen 22 = .ok (.istore_n 2, 1) := by decide +kernel
theorem dX4_reopen_23 : decode cX4_reopen 23 = .ok (.iload_n 2, 1) := by decide +kernel
theorem dX4_reopen_24 : decode cX4_reopen 24 = .ok (.ifCond .eq 90, 3) := by decide +kernel
theorem dX4_reopen_27 : decode cX4_reopen 27 = .ok (.aload_n 0, 1) := by decide +kernel
theorem dX4_reopen_28 : decode cX4_reopen 28 = .ok (.iconst 0, 1) := by decide +kernel
theorem dX4_reopen_29 : decode cX4_reopen 29 = .ok (.iload_n 1, 1) := by decide +kernel
theorem dX4_reopen_30 : decode cX4_reopen 30 = .ok (.invokevirtual 114, 3) := by decide +kernel
theorem dX4_reopen_33 : decode cX4_reopen 33 = .ok (.ifCond .eq 7, 3) := by decide +kernel
theorem dX4_reopen_36 : decode cX4_reopen 36 = .ok (.iconst 0, 1) := by decide +kernel
theorem dX4_reopen_37 : decode cX4_reopen 37 = .ok (.goto 17, 3) := by decide +kernel
theorem dX4_reopen_40 : decode cX4_reopen 40 = .ok (.aload_n 0, 1) := by decide +kernel
theorem dX4_reopen_41 : decode cX4_reopen 41 = .ok (.iconst 1, 1) := by decide +kernel
theorem dX4_reopen_42 : decode cX4_reopen 42 = .ok (.iload_n 1, 1) := by decide +kernel
theorem dX4_reopen_43 : decode cX4_reopen 43 = .ok (.invokevirtual 114, 3) := by decide +kernel
theorem dX4_reopen_46 : decode cX4_reopen 46 = .ok (.ifCond .eq 7, 3) := by decide +kernel
theorem dX4_reopen_49 : decode cX4_reopen 49 = .ok (.iconst 1, 1) := by decide +kernel
theorem dX4_reopen_50 : decode cX4_reopen 50 = .ok (.goto 4, 3) := by decide +kernel
theorem dX4_reopen_53 : decode cX4_reopen 53 = .ok (.iconst (-1), 1) := by decide +kernel
theorem dX4_reopen_54 : decode cX4_reopen 54 = .ok (.istore_n 3, 1) := by decide +kernel
theorem dX4_reopen_55 : decode cX4_reopen 55 = .ok (.iload_n 3, 1) := by decide +kernel
theorem dX4_reopen_56 : decode cX4_reopen 56 = .ok (.iconst (-1), 1) := by decide +kernel
theorem dX4_reopen_57 : decode cX4_reopen 57 = .ok (.if_icmp .eq 7, 3) := by decide +kernel
theorem dX4_reopen_60 : decode cX4_reopen 60 = .ok (.iconst 1, 1) := by decide +kernel
theorem dX4_reopen_61 : decode cX4_reopen 61 = .ok (.goto 4, 3) := by decide +kernel
theorem dX4_reopen_64 : decode cX4_reopen 64 = .ok (.iconst 0, 1) := by decide +kernel
theorem dX4_reopen_65 : decode cX4_reopen 65 = .ok (.istore_n 2, 1) := by decide +kernel
theorem dX4_reopen_66 : decode cX4_reopen 66 = .ok (.iload_n 2, 1) := by decide +kernel
theorem dX4_reopen_67 : decode cX4_reopen 67 = .ok (.ifCond .eq 44, 3) := by decide +kernel
theorem dX4_reopen_70 : decode cX4_reopen 70 = .ok (.aload_n 0, 1) := by decide +kernel
theorem dX4_reopen_71 : decode cX4_reopen 71 = .ok (.dup, 1) := by decide +kernel
theorem dX4_reopen_72 : decode cX4_reopen 72 = .ok (.getfield 111, 3) := by decide +kernel
theorem dX4_reopen_75 : decode cX4_reopen 75 = .ok (.aload_n 0, 1) := by decide +kernel
theorem dX4_reopen_76 : decode cX4_reopen 76 = .ok (.iload_n 1, 1) := by decide +kernel
theorem dX4_reopen_77 : decode cX4_reopen 77 = .ok (.iload_n 1, 1) := by decide +kernel
theorem dX4_reopen_78 : decode cX4_reopen 78 = .ok (.aload_n 0, 1) := by decide +kernel
theorem dX4_reopen_79 : decode cX4_reopen 79 = .ok (.getfield 108, 3) := by decide +kernel
theorem dX4_reopen_82 : decode cX4_reopen 82 = .ok (.iadd, 1) := by decide +kernel
theorem dX4_reopen_83 : decode cX4_reopen 83 = .ok (.invokevirtual 93, 3) := by decide +kernel
theorem dX4_reopen_86 : decode cX4_reopen 86 = .ok (.ifCond .eq 7, 3) := by decide +kernel
theorem dX4_reopen_89 : decode cX4_reopen 89 = .ok (.iconst 0, 1) := by decide +kernel
theorem dX4_reopen_90 : decode cX4_reopen 90 = .ok (.goto 4, 3) := by decide +kernel
theorem dX4_reopen_93 : decode cX4_reopen 93 = .ok (.iconst 1, 1) := by decide +kernel
theorem dX4_reopen_94 : decode cX4_reopen 94 = .ok (.iadd, 1) := by decide +kernel
theorem dX4_reopen_95 : decode cX4_reopen 95 = .ok (.putfield 111, 3) := by decide +kernel
theorem dX4_reopen_98 : decode cX4_reopen 98 = .ok (.aload_n 0, 1) := by decide +kernel
theorem dX4_reopen_99 : decode cX4_reopen 99 = .ok (.iload_n 3, 1) := by decide +kernel
theorem dX4_reopen_100 : decode cX4_reopen 100 = .ok (.iload_n 1, 1) := by decide +kernel
theorem dX4_reopen_101 : decode cX4_reopen 101 = .ok (.invokevirtual 117, 3) := by decide +kernel
theorem dX4_reopen_104 : decode cX4_reopen 104 = .ok (.iload_n 1, 1) := by decide +kernel
theorem dX4_reopen_105 : decode cX4_reopen 105 = .ok (.aload_n 0, 1) := by decide +kernel
theorem dX4_reopen_106 : decode cX4_reopen 106 = .ok (.getfield 108, 3) := by decide +kernel
theorem dX4_reopen_109 : decode cX4_reopen 109 = .ok (.iadd, 1) := by decide +kernel
theorem dX4_reopen_110 : decode cX4_reopen 110 = .ok (.istore_n 1, 1) := by decide +kernel
theorem dX4_reopen_111 : decode cX4_reopen 111 = .ok (.goto (-88), 3) := by decide +kernel
theorem dX4_reopen_114 : decode cX4_reopen 114 = .ok (.aload_n 0, 1) := by decide +kernel
theorem dX4_reopen_115 : decode cX4_reopen 115 = .ok (.aload_n 0, 1) := by decide +kernel
theorem dX4_reopen_116 : decode cX4_reopen 116 = .ok (.getfield 13, 3) := by decide +kernel
theorem dX4_reopen_119 : decode cX4_reopen 119 = .ok (.iconst 0, 1) := by decide +kernel
theorem dX4_reopen_120 : decode cX4_reopen 120 = .ok (.iaload, 1) := by decide +kernel
theorem dX4_reopen_121 : decode cX4_reopen 121 = .ok (.iload_n 1, 1) := by decide +kernel
theorem dX4_reopen_122 : decode cX4_reopen 122 = .ok (.if_icmp .gt 13, 3) := by decide +kernel
theorem dX4_reopen_125 : decode cX4_reopen 125 = .ok (.aload_n 0, 1) := by decide +kernel
theorem dX4_reopen_126 : decode cX4_reopen 126 = .ok (.getfield 13, 3) := by decide +kernel
theorem dX4_reopen_129 : decode cX4_reopen 129 = .ok (.iconst 1, 1) := by decide +kernel
theorem dX4_reopen_130 : decode cX4_reopen 130 = .ok (.iaload, 1) := by decide +kernel
theorem dX4_reopen_131 : decode cX4_reopen 131 = .ok (.iload_n 1, 1) := by decide +kernel
theorem dX4_reopen_132 : decode cX4_reopen 132 = .ok (.if_icmp .le 7, 3) := by decide +kernel
theorem dX4_reopen_135 : decode cX4_reopen 135 = .ok (.iload_n 1, 1) := by decide +kernel
theorem dX4_reopen_136 : decode cX4_reopen 136 = .ok (.goto 4, 3) := by decide +kernel
theorem dX4_reopen_139 : decode cX4_reopen 139 = .ok (.iconst (-1), 1) := by decide +kernel
theorem dX4_reopen_140 : decode cX4_reopen 140 = .ok (.putfield 44, 3) := by decide +kernel
theorem dX4_reopen_143 : decode cX4_reopen 143 = .ok (.aload_n 0, 1) := by decide +kernel
theorem dX4_reopen_144 : decode cX4_reopen 144 = .ok (.getfield 13, 3) := by decide +kernel
theorem dX4_reopen_147 : decode cX4_reopen 147 = .ok (.iconst 0, 1) := by decide +kernel
theorem dX4_reopen_148 : decode cX4_reopen 148 = .ok (.iload_n 1, 1) := by decide +kernel
theorem dX4_reopen_149 : decode cX4_reopen 149 = .ok (.iastore, 1) := by decide +kernel
theorem dX4_reopen_150 : decode cX4_reopen 150 = .ok (.aload_n 0, 1) := by decide +kernel
theorem dX4_reopen_151 : decode cX4_reopen 151 = .ok (.getfield 13, 3) := by decide +kernel
theorem dX4_reopen_154 : decode cX4_reopen 154 = .ok (.iconst 1, 1) := by decide +kernel
theorem dX4_reopen_155 : decode cX4_reopen 155 = .ok (.iload_n 1, 1) := by decide +kernel
theorem dX4_reopen_156 : decode cX4_reopen 156 = .ok (.iastore, 1) := by decide +kernel
theorem dX4_reopen_157 : decode cX4_reopen 157 = .ok (.aload_n 0, 1) := by decide +kernel
theorem dX4_reopen_158 : decode cX4_reopen 158 = .ok (.getfield 62, 3) := by decide +kernel
theorem dX4_reopen_161 : decode cX4_reopen 161 = .ok (.ireturn, 1) := by decide +kernel
theorem dX4_repaired_0 : decode cX4_repaired 0 = .ok (.aload_n 0, 1) := by decide +kernel
theorem dX4_repaired_1 : decode cX4_repaired 1 = .ok (.iconst 0, 1) := by decide +kernel
theorem dX4_repaired_2 : decode cX4_repaired 2 = .ok (.putfield 48, 3) := by decide +kernel
theorem dX4_repaired_5 : decode cX4_repaired 5 = .ok (.aload_n 0, 1) := by decide +kernel
theorem dX4_repaired_6 : decode cX4_repaired 6 = .ok (.getfield 111, 3) := by decide +kernel
theorem dX4_repaired_9 : decode cX4_repaired 9 = .ok (.ireturn, 1) := by decide +kernel
theorem dX4_badAt_0 : decode cX4_badAt 0 = .ok (.aload_n 0, 1) := by decide +kernel
theorem dX4_badAt_1 : decode cX4_badAt 1 = .ok (.iconst 0, 1) := by decide +kernel
theorem dX4_badAt_2 : decode cX4_badAt 2 = .ok (.putfield 48, 3) := by decide +kernel
theorem dX4_badAt_5 : decode cX4_badAt 5 = .ok (.aload_n 0, 1) := by decide +kernel
theorem dX4_badAt_6 : decode cX4_badAt 6 = .ok (.getfield 44, 3) := by decide +kernel
theorem dX4_badAt_9 : decode cX4_badAt 9 = .ok (.ireturn, 1) := by decide +kernel
theorem dX4_byteAt_0 : decode cX4_byteAt 0 = .ok (.aload_n 0, 1) := by decide +kernel
theorem dX4_byteAt_1 : decode cX4_byteAt 1 = .ok (.iload_n 1, 1) := by decide +kernel
theorem dX4_byteAt_2 : decode cX4_byteAt 2 = .ok (.ifCond .lt 11, 3) := by decide +kernel
theorem dX4_byteAt_5 : decode cX4_byteAt 5 = .ok (.iload_n 1, 1) := by decide +kernel
theorem dX4_byteAt_6 : decode cX4_byteAt 6 = .ok (.aload_n 0, 1) := by decide +kernel
theorem dX4_byteAt_7 : decode cX4_byteAt 7 = .ok (.getfield 62, 3) := by decide +kernel
theorem dX4_byteAt_10 : decode cX4_byteAt 10 = .ok (.if_icmp .lt 7, 3) := by decide +kernel
theorem dX4_byteAt_13 : decode cX4_byteAt 13 = .ok (.iconst 1, 1) := by decide +kernel
theorem dX4_byteAt_14 : decode cX4_byteAt 14 = .ok (.goto 4, 3) := by decide +kernel
theorem dX4_byteAt_17 : decode cX4_byteAt 17 = .ok (.iconst 0, 1) := by decide +kernel
theorem dX4_byteAt_18 : decode cX4_byteAt 18 = .ok (.putfield 48, 3) := by decide +kernel
theorem dX4_byteAt_21 : decode cX4_byteAt 21 = .ok (.aload_n 0, 1) := by decide +kernel
theorem dX4_byteAt_22 : decode cX4_byteAt 22 = .ok (.getfield 48, 3) := by decide +kernel
theorem dX4_byteAt_25 : decode cX4_byteAt 25 = .ok (.iconst 1, 1) := by decide +kernel
theorem dX4_byteAt_26 : decode cX4_byteAt 26 = .ok (.if_icmp .eq 17, 3) := by decide +kernel
theorem dX4_byteAt_29 : decode cX4_byteAt 29 = .ok (.iload_n 2, 1) := by decide +kernel
theorem dX4_byteAt_30 : decode cX4_byteAt 30 = .ok (.ifCond .lt 13, 3) := by decide +kernel
theorem dX4_byteAt_33 : decode cX4_byteAt 33 = .ok (.iload_n 2, 1) := by decide +kernel
theorem dX4_byteAt_34 : decode cX4_byteAt 34 = .ok (.aload_n 0, 1) := by decide +kernel
theorem dX4_byteAt_35 : decode cX4_byteAt 35 = .ok (.getfield 19, 3) := by decide +kernel
theorem dX4_byteAt_38 : decode cX4_byteAt 38 = .ok (.iload_n 1, 1) := by decide +kernel
theorem dX4_byteAt_39 : decode cX4_byteAt 39 = .ok (.iaload, 1) := by decide +kernel
theorem dX4_byteAt_40 : decode cX4_byteAt 40 = .ok (.if_icmp .lt 7, 3) := by decide +kernel
theorem dX4_byteAt_43 : decode cX4_byteAt 43 = .ok (.iconst (-1), 1) := by decide +kernel
theorem dX4_byteAt_44 : decode cX4_byteAt 44 = .ok (.goto 14, 3) := by decide +kernel
theorem dX4_byteAt_47 : decode cX4_byteAt 47 = .ok (.aload_n 0, 1) := by decide +kernel
theorem dX4_byteAt_48 : decode cX4_byteAt 48 = .ok (.getfield 23, 3) := by decide +kernel
theorem dX4_byteAt_51 : decode cX4_byteAt 51 = .ok (.iload_n 1, 1) := by decide +kernel
theorem dX4_byteAt_52 : decode cX4_byteAt 52 = .ok (.bipush 64, 2) := by decide +kernel
theorem dX4_byteAt_54 : decode cX4_byteAt 54 = .ok (.imul, 1) := by decide +kernel
theorem dX4_byteAt_55 : decode cX4_byteAt 55 = .ok (.iload_n 2, 1) := by decide +kernel
theorem dX4_byteAt_56 : decode cX4_byteAt 56 = .ok (.iadd, 1) := by decide +kernel
theorem dX4_byteAt_57 : decode cX4_byteAt 57 = .ok (.iaload, 1) := by decide +kernel
theorem dX4_byteAt_58 : decode cX4_byteAt 58 = .ok (.ireturn, 1) := by decide +kernel
theorem dX4_rows_0 : decode cX4_rows 0 = .ok (.aload_n 0, 1) := by decide +kernel
theorem dX4_rows_1 : decode cX4_rows 1 = .ok (.iconst 0, 1) := by decide +kernel
theorem dX4_rows_2 : decode cX4_rows 2 = .ok (.putfield 48, 3) := by decide +kernel
theorem dX4_rows_5 : decode cX4_rows 5 = .ok (.iconst 0, 1) := by decide +kernel
theorem dX4_rows_6 : decode cX4_rows 6 = .ok (.istore_n 2, 1) := by decide +kernel
theorem dX4_rows_7 : decode cX4_rows 7 = .ok (.iconst 0, 1) := by decide +kernel
theorem dX4_rows_8 : decode cX4_rows 8 = .ok (.istore_n 3, 1) := by decide +kernel
theorem dX4_rows_9 : decode cX4_rows 9 = .ok (.iload_n 3, 1) := by decide +kernel
theorem dX4_rows_10 : decode cX4_rows 10 = .ok (.aload_n 0, 1) := by decide +kernel
theorem dX4_rows_11 : decode cX4_rows 11 = .ok (.getfield 62, 3) := by decide +kernel
theorem dX4_rows_14 : decode cX4_rows 14 = .ok (.if_icmp .ge 30, 3) := by decide +kernel
theorem dX4_rows_17 : decode cX4_rows 17 = .ok (.iload_n 2, 1) := by decide +kernel
theorem dX4_rows_18 : decode cX4_rows 18 = .ok (.aload_n 0, 1) := by decide +kernel
theorem dX4_rows_19 : decode cX4_rows 19 = .ok (.getfield 16, 3) := by decide +kernel
theorem dX4_rows_22 : decode cX4_rows 22 = .ok (.iload_n 3, 1) := by decide +kernel
theorem dX4_rows_23 : decode cX4_rows 23 = .ok (.iaload, 1) := by decide +kernel
theorem dX4_rows_24 : decode cX4_rows 24 = .ok (.ldc 121, 2) := by decide +kernel
theorem dX4_rows_26 : decode cX4_rows 26 = .ok (.idiv, 1) := by decide +kernel
theorem dX4_rows_27 : decode cX4_rows 27 = .ok (.iload_n 1, 1) := by decide +kernel
theorem dX4_rows_28 : decode cX4_rows 28 = .ok (.if_icmp .ne 7, 3) := by decide +kernel
theorem dX4_rows_31 : decode cX4_rows 31 = .ok (.iconst 1, 1) := by decide +kernel
theorem dX4_rows_32 : decode cX4_rows 32 = .ok (.goto 4, 3) := by decide +kernel
theorem dX4_rows_35 : decode cX4_rows 35 = .ok (.iconst 0, 1) := by decide +kernel
theorem dX4_rows_36 : decode cX4_rows 36 = .ok (.iadd, 1) := by decide +kernel
theorem dX4_rows_37 : decode cX4_rows 37 = .ok (.istore_n 2, 1) := by decide +kernel
theorem dX4_rows_38 : decode cX4_rows 38 = .ok (.iinc 3 1, 3) := by decide +kernel
theorem dX4_rows_41 : decode cX4_rows 41 = .ok (.goto (-32), 3) := by decide +kernel
theorem dX4_rows_44 : decode cX4_rows 44 = .ok (.iload_n 2, 1) := by decide +kernel
theorem dX4_rows_45 : decode cX4_rows 45 = .ok (.ireturn, 1) := by decide +kernel
theorem dX4_move_0 : decode cX4_move 0 = .ok (.aload_n 0, 1) := by decide +kernel
theorem dX4_move_1 : decode cX4_move 1 = .ok (.iconst 0, 1) := by decide +kernel
theorem dX4_move_2 : decode cX4_move 2 = .ok (.putfield 48, 3) := by decide +kernel
theorem dX4_move_5 : decode cX4_move 5 = .ok (.aload_n 0, 1) := by decide +kernel
theorem dX4_move_6 : decode cX4_move 6 = .ok (.getfield 52, 3) := by decide +kernel
theorem dX4_move_9 : decode cX4_move 9 = .ok (.ifCond .ne 39, 3) := by decide +kernel
theorem dX4_move_12 : decode cX4_move 12 = .ok (.aload_n 0, 1) := by decide +kernel
theorem dX4_move_13 : decode cX4_move 13 = .ok (.getfield 59, 3) := by decide +kernel
theorem dX4_move_16 : decode cX4_move 16 = .ok (.ifCond .gt 32, 3) := by decide +kernel
theorem dX4_move_19 : decode cX4_move 19 = .ok (.aload_n 0, 1) := by decide +kernel
theorem dX4_move_20 : decode cX4_move 20 = .ok (.getfield 13, 3) := by decide +kernel
theorem dX4_move_23 : decode cX4_move 23 = .ok (.iconst 0, 1) := by decide +kernel
theorem dX4_move_24 : decode cX4_move 24 = .ok (.iaload, 1) := by decide +kernel
theorem dX4_move_25 : decode cX4_move 25 = .ok (.aload_n 0, 1) := by decide +kernel
theorem dX4_move_26 : decode cX4_move 26 = .ok (.getfield 13, 3) := by decide +kernel
theorem dX4_move_29 : decode cX4_move 29 = .ok (.iconst 1, 1) := by decide +kernel
theorem dX4_move_30 : decode cX4_move 30 = .ok (.iaload, 1) := by decide +kernel
theorem dX4_move_31 : decode cX4_move 31 = .ok (.if_icmp .ne 17, 3) := by decide +kernel
theorem dX4_move_34 : decode cX4_move 34 = .ok (.aload_n 0, 1) := by decide +kernel
theorem dX4_move_35 : decode cX4_move 35 = .ok (.iconst 0, 1) := by decide +kernel
theorem dX4_move_36 : decode cX4_move 36 = .ok (.aload_n 0, 1) := by decide +kernel
theorem dX4_move_37 : decode cX4_move 37 = .ok (.getfield 13, 3) := by decide +kernel
theorem dX4_move_40 : decode cX4_move 40 = .ok (.iconst 0, 1) := by decide +kernel
theorem dX4_move_41 : decode cX4_move 41 = .ok (.iaload, 1) := by decide +kernel
theorem dX4_move_42 : decode cX4_move 42 = .ok (.invokevirtual 93, 3) := by decide +kernel
theorem dX4_move_45 : decode cX4_move 45 = .ok (.ifCond .ne 5, 3) := by decide +kernel
theorem dX4_move_48 : decode cX4_move 48 = .ok (.iconst 0, 1) := by decide +kernel
theorem dX4_move_49 : decode cX4_move 49 = .ok (.ireturn, 1) := by decide +kernel
theorem dX4_move_50 : decode cX4_move 50 = .ok (.iconst 0, 1) := by decide +kernel
theorem dX4_move_51 : decode cX4_move 51 = .ok (.istore_n 2, 1) := by decide +kernel
theorem dX4_move_52 : decode cX4_move 52 = .ok (.iconst 0, 1) := by decide +kernel
theorem dX4_move_53 : decode cX4_move 53 = .ok (.istore_n 3, 1) := by decide +kernel
theorem dX4_move_54 : decode cX4_move 54 = .ok (.aload_n 0, 1) := by decide +kernel
theorem dX4_move_55 : decode cX4_move 55 = .ok (.getfield 87, 3) := by decide +kernel
theorem dX4_move_58 : decode cX4_move 58 = .ok (.istore 4, 2) := by decide +kernel
theorem dX4_move_60 : decode cX4_move 60 = .ok (.iload_n 2, 1) := by decide +kernel
theorem dX4_move_61 : decode cX4_move 61 = .ok (.aload_n 0, 1) := by decide +kernel
theorem dX4_move_62 : decode cX4_move 62 = .ok (.getfield 84, 3) := by decide +kernel
theorem dX4_move_65 : decode cX4_move 65 = .ok (.if_icmp .ge 52, 3) := by decide +kernel
theorem dX4_move_68 : decode cX4_move 68 = .ok (.aload_n 0, 1) := by decide +kernel
theorem dX4_move_69 : decode cX4_move 69 = .ok (.getfield 16, 3) := by decide +kernel
theorem dX4_move_72 : decode cX4_move 72 = .ok (.iload 4, 2) := by decide +kernel
theorem dX4_move_74 : decode cX4_move 74 = .ok (.aload_n 0, 1) := by decide +kernel
theorem dX4_move_75 : decode cX4_move 75 = .ok (.getfield 26, 3) := by decide +kernel
theorem dX4_move_78 : decode cX4_move 78 = .ok (.iload_n 2, 1) := by decide +kernel
theorem dX4_move_79 : decode cX4_move 79 = .ok (.iaload, 1) := by decide +kernel
theorem dX4_move_80 : decode cX4_move 80 = .ok (.iadd, 1) := by decide +kernel
theorem dX4_move_81 : decode cX4_move 81 = .ok (.iconst 1, 1) := by decide +kernel
theorem dX4_move_82 : decode cX4_move 82 = .ok (.isub, 1) := by decide +kernel
theorem dX4_move_83 : decode cX4_move 83 = .ok (.iaload, 1) := by decide +kernel
theorem dX4_move_84 : decode cX4_move 84 = .ok (.ldc 121, 2) := by decide +kernel
theorem dX4_move_86 : decode cX4_move 86 = .ok (.idiv, 1) := by decide +kernel
theorem dX4_move_87 : decode cX4_move 87 = .ok (.iload_n 1, 1) := by decide +kernel
theorem dX4_move_88 : decode cX4_move 88 = .ok (.if_icmp .gt 29, 3) := by decide +kernel
theorem dX4_move_91 : decode cX4_move 91 = .ok (.iload 4, 2) := by decide +kernel
theorem dX4_move_93 : decode cX4_move 93 = .ok (.aload_n 0, 1) := by decide +kernel
theorem dX4_move_94 : decode cX4_move 94 = .ok (.getfield 26, 3) := by decide +kernel
theorem dX4_move_97 : decode cX4_move 97 = .ok (.iload_n 2, 1) := by decide +kernel
theorem dX4_move_98 : decode cX4_move 98 = .ok (.iaload, 1) := by decide +kernel
theorem dX4_move_99 : decode cX4_move 99 = .ok (.iadd, 1) := by decide +kernel
theorem dX4_move_100 : decode cX4_move 100 = .ok (.istore 4, 2) := by decide +kernel
theorem dX4_move_102 : decode cX4_move 102 = .ok (.iload_n 3, 1) := by decide +kernel
theorem dX4_move_103 : decode cX4_move 103 = .ok (.aload_n 0, 1) := by decide +kernel
theorem dX4_move_104 : decode cX4_move 104 = .ok (.getfield 29, 3) := by decide +kernel
theorem dX4_move_107 : decode cX4_move 107 = .ok (.iload_n 2, 1) := by decide +kernel
theorem dX4_move_108 : decode cX4_move 108 = .ok (.iaload, 1) := by decide +kernel
theorem dX4_move_109 : decode cX4_move 109 = .ok (.iadd, 1) := by decide +kernel
theorem dX4_move_110 : decode cX4_move 110 = .ok (.istore_n 3, 1) := by decide +kernel
theorem dX4_move_111 : decode cX4_move 111 = .ok (.iinc 2 1, 3) := by decide +kernel
theorem dX4_move_114 : decode cX4_move 114 = .ok (.goto (-54), 3) := by decide +kernel
theorem dX4_move_117 : decode cX4_move 117 = .ok (.iload_n 2, 1) := by decide +kernel
theorem dX4_move_118 : decode cX4_move 118 = .ok (.ifCond .ne 5, 3) := by decide +kernel
theorem dX4_move_121 : decode cX4_move 121 = .ok (.iconst 0, 1) := by decide +kernel
theorem dX4_move_122 : decode cX4_move 122 = .ok (.ireturn, 1) := by decide +kernel
theorem dX4_move_123 : decode cX4_move 123 = .ok (.iconst 0, 1) := by decide +kernel
theorem dX4_move_124 : decode cX4_move 124 = .ok (.istore 5, 2) := by decide +kernel
theorem dX4_move_126 : decode cX4_move 126 = .ok (.iload 5, 2) := by decide +kernel
theorem dX4_move_128 : decode cX4_move 128 = .ok (.iconst 2, 1) := by decide +kernel
theorem dX4_move_129 : decode cX4_move 129 = .ok (.if_icmp .ge 71, 3) := by decide +kernel
theorem dX4_move_132 : decode cX4_move 132 = .ok (.iload_n 3, 1) := by decide +kernel
theorem dX4_move_133 : decode cX4_move 133 = .ok (.istore 6, 2) := by decide +kernel
theorem dX4_move_135 : decode cX4_move 135 = .ok (.iload 6, 2) := by decide +kernel
theorem dX4_move_137 : decode cX4_move 137 = .ok (.aload_n 0, 1) := by decide +kernel
theorem dX4_move_138 : decode cX4_move 138 = .ok (.getfield 13, 3) := by decide +kernel
theorem dX4_move_141 : decode cX4_move 141 = .ok (.iload 5, 2) := by decide +kernel
theorem dX4_move_143 : decode cX4_move 143 = .ok (.iaload, 1) := by decide +kernel
theorem dX4_move_144 : decode cX4_move 144 = .ok (.if_icmp .ge 39, 3) := by decide +kernel
theorem dX4_move_147 : decode cX4_move 147 = .ok (.aload_n 0, 1) := by decide +kernel
theorem dX4_move_148 : decode cX4_move 148 = .ok (.getfield 9, 3) := by decide +kernel
theorem dX4_move_151 : decode cX4_move 151 = .ok (.iload 5, 2) := by decide +kernel
theorem dX4_move_153 : decode cX4_move 153 = .ok (.sipush 8192, 3) := by decide +kernel
theorem dX4_move_156 : decode cX4_move 156 = .ok (.imul, 1) := by decide +kernel
theorem dX4_move_157 : decode cX4_move 157 = .ok (.iload 6, 2) := by decide +kernel
theorem dX4_move_159 : decode cX4_move 159 = .ok (.iadd, 1) := by decide +kernel
theorem dX4_move_160 : decode cX4_move 160 = .ok (.iload_n 3, 1) := by decide +kernel
theorem dX4_move_161 : decode cX4_move 161 = .ok (.isub, 1) := by decide +kernel
theorem dX4_move_162 : decode cX4_move 162 = .ok (.aload_n 0, 1) := by decide +kernel
theorem dX4_move_163 : decode cX4_move 163 = .ok (.getfield 9, 3) := by decide +kernel
theorem dX4_move_166 : decode cX4_move 166 = .ok (.iload 5, 2) := by decide +kernel
theorem dX4_move_168 : decode cX4_move 168 = .ok (.sipush 8192, 3) := by decide +kernel
theorem dX4_move_171 : decode cX4_move 171 = .ok (.imul, 1) := by decide +kernel
theorem dX4_move_172 : decode cX4_move 172 = .ok (.iload 6, 2) := by decide +kernel
theorem dX4_move_174 : decode cX4_move 174 = .ok (.iadd, 1) := by decide +kernel
theorem dX4_move_175 : decode cX4_move 175 = .ok (.iaload, 1) := by decide +kernel
theorem dX4_move_176 : decode cX4_move 176 = .ok (.iastore, 1) := by decide +kernel
theorem dX4_move_177 : decode cX4_move 177 = .ok (.iinc 6 1, 3) := by decide +kernel
theorem dX4_move_180 : decode cX4_move 180 = .ok (.goto (-45), 3) := by decide +kernel
theorem dX4_move_183 : decode cX4_move 183 = .ok (.aload_n 0, 1) := by decide +kernel
theorem dX4_move_184 : decode cX4_move 184 = .ok (.getfield 13, 3) := by decide +kernel
theorem dX4_move_187 : decode cX4_move 187 = .ok (.iload 5, 2) := by decide +kernel
theorem dX4_move_189 : decode cX4_move 189 = .ok (.dup2, 1) := by decide +kernel
theorem dX4_move_190 : decode cX4_move 190 = .ok (.iaload, 1) := by decide +kernel
theorem dX4_move_191 : decode cX4_move 191 = .ok (.iload_n 3, 1) := by decide +kernel
theorem dX4_move_192 : decode cX4_move 192 = .ok (.isub, 1) := by decide +kernel
theorem dX4_move_193 : decode cX4_move 193 = .ok (.iastore, 1) := by decide +kernel
theorem dX4_move_194 : decode cX4_move 194 = .ok (.iinc 5 1, 3) := by decide +kernel
theorem dX4_move_197 : decode cX4_move 197 = .ok (.goto (-71), 3) := by decide +kernel
theorem dX4_move_200 : decode cX4_move 200 = .ok (.iload_n 2, 1) := by decide +kernel
theorem dX4_move_201 : decode cX4_move 201 = .ok (.istore 5, 2) := by decide +kernel
theorem dX4_move_203 : decode cX4_move 203 = .ok (.iload 5, 2) := by decide +kernel
theorem dX4_move_205 : decode cX4_move 205 = .ok (.aload_n 0, 1) := by decide +kernel
theorem dX4_move_206 : decode cX4_move 206 = .ok (.getfield 84, 3) := by decide +kernel
theorem dX4_move_209 : decode cX4_move 209 = .ok (.if_icmp .ge 41, 3) := by decide +kernel
theorem dX4_move_212 : decode cX4_move 212 = .ok (.aload_n 0, 1) := by decide +kernel
theorem dX4_move_213 : decode cX4_move 213 = .ok (.getfield 26, 3) := by decide +kernel
theorem dX4_move_216 : decode cX4_move 216 = .ok (.iload 5, 2) := by decide +kernel
theorem dX4_move_218 : decode cX4_move 218 = .ok (.iload_n 2, 1) := by decide +kernel
theorem dX4_move_219 : decode cX4_move 219 = .ok (.isub, 1) := by decide +kernel
theorem dX4_move_220 : decode cX4_move 220 = .ok (.aload_n 0, 1) := by decide +kernel
theorem dX4_move_221 : decode cX4_move 221 = .ok (.getfield 26, 3) := by decide +kernel
theorem dX4_move_224 : decode cX4_move 224 = .ok (.iload 5, 2) := by decide +kernel
theorem dX4_move_226 : decode cX4_move 226 = .ok (.iaload, 1) := by decide +kernel
theorem dX4_move_227 : decode cX4_move 227 = .ok (.iastore, 1) := by decide +kernel
theorem dX4_move_228 : decode cX4_move 228 = .ok (.aload_n 0, 1) := by decide +kernel
theorem dX4_move_229 : decode cX4_move 229 = .ok (.getfield 29, 3) := by decide +kernel
theorem dX4_move_232 : decode cX4_move 232 = .ok (.iload 5, 2) := by decide +kernel
theorem dX4_move_234 : decode cX4_move 234 = .ok (.iload_n 2, 1) := by decide +kernel
theorem dX4_move_235 : decode cX4_move 235 = .ok (.isub, 1) := by decide +kernel
theorem dX4_move_236 : decode cX4_move 236 = .ok (.aload_n 0, 1) := by decide +kernel
theorem dX4_move_237 : decode cX4_move 237 = .ok (.getfield 29, 3) := by decide +kernel
theorem dX4_move_240 : decode cX4_move 240 = .ok (.iload 5, 2) := by decide +kernel
theorem dX4_move_242 : decode cX4_move 242 = .ok (.iaload, 1) := by decide +kernel
theorem dX4_move_243 : decode cX4_move 243 = .ok (.iastore, 1) := by decide +kernel
theorem dX4_move_244 : decode cX4_move 244 = .ok (.iinc 5 1, 3) := by decide +kernel
theorem dX4_move_247 : decode cX4_move 247 = .ok (.goto (-44), 3) := by decide +kernel
theorem dX4_move_250 : decode cX4_move 250 = .ok (.aload_n 0, 1) := by decide +kernel
theorem dX4_move_251 : decode cX4_move 251 = .ok (.dup, 1) := by decide +kernel
theorem dX4_move_252 : decode cX4_move 252 = .ok (.getfield 84, 3) := by decide +kernel
theorem dX4_move_255 : decode cX4_move 255 = .ok (.iload_n 2, 1) := by decide +kernel
theorem dX4_move_256 : decode cX4_move 256 = .ok (.isub, 1) := by decide +kernel
theorem dX4_move_257 : decode cX4_move 257 = .ok (.putfield 84, 3) := by decide +kernel
theorem dX4_move_260 : decode cX4_move 260 = .ok (.aload_n 0, 1) := by decide +kernel
theorem dX4_move_261 : decode cX4_move 261 = .ok (.iload 4, 2) := by decide +kernel
theorem dX4_move_263 : decode cX4_move 263 = .ok (.putfield 87, 3) := by decide +kernel
theorem dX4_move_266 : decode cX4_move 266 = .ok (.iconst 1, 1) := by decide +kernel
theorem dX4_move_267 : decode cX4_move 267 = .ok (.ireturn, 1) := by decide +kernel
